import java.util.ArrayList;
import java.util.HashMap;
import java.util.List;
import java.util.Map;

/**
 * The document's words once more, in their plainest form and sharing nothing with the class, to hold the class against.
 * Codes are done while they are fetched: nothing is changed before the last byte of a code has come.
 */
final class Model {
    static final int CARRY = 1;
    static final int PARITY = 4;
    static final int HALF = 16;
    static final int ZERO = 64;
    static final int SIGN = 128;
    static final int TRAP = 256;
    static final int INTERRUPT = 512;
    static final int DIRECTION = 1024;
    static final int OVERFLOW = 2048;

    /** What is fetched is no code, or has more than 15 bytes. */
    private static final class NoCode extends RuntimeException {
        private static final long serialVersionUID = 1L;
    }

    /** A register (segment is -1) or a place in memory. */
    private record Operand(int segment, int number) {
    }

    final int[] words = new int[8];
    final int[] segments = new int[4];
    final int[] ports = new int[256];
    final Map<Integer, int[]> pages = new HashMap<>();
    /** The places that were written, lost ones too. */
    final List<Integer> written = new ArrayList<>();
    int ip;
    int flags;
    int line = -1;
    int lost;
    int steps;
    int repetitions;
    boolean halted;
    private boolean trapBeforeLast;
    private boolean lastGaveSegment;
    private boolean lastWasInterrupt;
    private int fetched;
    private int prefixSegment;
    private int repeat;
    private int begin;
    private int mode;
    private int r;

    // The calls.

    void set(int n, int v) {
        if (n < 8) {
            words[n] = v & 0xFFFF;
        } else if (n < 12) {
            segments[n - 8] = v & 0xFFFF;
        } else if (n == 12) {
            ip = v & 0xFFFF;
        } else {
            keepFlags(v);
        }
    }

    int get(int n) {
        return n < 8 ? words[n] : n < 12 ? segments[n - 8] : n == 12 ? ip : flags;
    }

    void write(int place, int four) {
        for (int i = 0; i < 4; i++) {
            put(place + i, four >>> 24 - 8 * i);
        }
    }

    int byteAt(int place) {
        int[] page = pages.get(place / 256);
        return page == null ? 0 : page[place % 256];
    }

    int count(int what) {
        return what == 0 ? steps : what == 1 ? pages.size() : what == 2 ? lost : repetitions;
    }

    int run(int n) {
        for (int i = 0; i < n; i++) {
            if (trapBeforeLast && !lastGaveSegment && !lastWasInterrupt) {
                interruptStep(1);
            } else if (line >= 0 && has(INTERRUPT) && !lastGaveSegment) {
                int number = line;
                line = -1;
                interruptStep(number);
            } else if (halted) {
                return 1;
            } else if (!codeStep()) {
                return 2;
            }
        }
        return 0;
    }

    private void interruptStep(int n) {
        halted = false;
        trapBeforeLast = has(TRAP);
        lastGaveSegment = false;
        lastWasInterrupt = true;
        steps++;
        interrupt(n);
    }

    private boolean codeStep() {
        boolean trap = has(TRAP);
        begin = ip;
        fetched = 0;
        prefixSegment = -1;
        repeat = 0;
        int code;
        try {
            code = code();
        } catch (NoCode e) {
            ip = begin;
            return false;
        }
        trapBeforeLast = trap;
        lastGaveSegment = code == 0x07 || code == 0x0F || code == 0x17 || code == 0x1F || code == 0x8E;
        lastWasInterrupt = false;
        steps++;
        return true;
    }

    // Memory.

    private static int place(int segment, int offset) {
        return (16 * segment + offset) % (1 << 20);
    }

    private void put(int place, int v) {
        written.add(place);
        if (!pages.containsKey(place / 256)) {
            if (pages.size() == 256) {
                lost++;
                return;
            }
            pages.put(place / 256, new int[256]);
        }
        pages.get(place / 256)[place % 256] = v & 255;
    }

    private int load(int segment, int offset, int bits) {
        int v = byteAt(place(segment, offset % 65536));
        return bits == 8 ? v : v + 256 * byteAt(place(segment, (offset + 1) % 65536));
    }

    private void store(int segment, int offset, int v, int bits) {
        put(place(segment, offset % 65536), v % 256);
        if (bits == 16) {
            put(place(segment, (offset + 1) % 65536), v / 256);
        }
    }

    private void push(int v) {
        words[4] = (words[4] + 65534) % 65536;
        store(segments[2], words[4], v, 16);
    }

    private int pop() {
        int v = load(segments[2], words[4], 16);
        words[4] = (words[4] + 2) % 65536;
        return v;
    }

    // Fetching.

    private int fetch() {
        if (fetched == 15) {
            throw new NoCode();
        }
        int v = byteAt(place(segments[1], ip));
        ip = (ip + 1) % 65536;
        fetched++;
        return v;
    }

    private int fetchWord() {
        int lower = fetch();
        return lower + 256 * fetch();
    }

    private int fetchFor(int bits) {
        return bits == 8 ? fetch() : fetchWord();
    }

    private int fetchSigned() {
        int v = fetch();
        return v < 128 ? v : v - 256;
    }

    private int segment(int usual) {
        return segments[prefixSegment < 0 ? usual : prefixSegment];
    }

    private Operand fetchM() {
        int all = fetch();
        mode = all / 64;
        r = all / 8 % 8;
        int m = all % 8;
        if (mode == 3) {
            return new Operand(-1, m);
        }
        if (mode == 0 && m == 6) {
            return new Operand(segment(3), fetchWord());
        }
        int[][] parts = {{3, 6}, {3, 7}, {5, 6}, {5, 7}, {6}, {7}, {5}, {3}};
        int offset = mode == 1 ? fetchSigned() : mode == 2 ? fetchWord() : 0;
        for (int part : parts[m]) {
            offset += words[part];
        }
        return new Operand(segment(parts[m][0] == 5 ? 2 : 3), Math.floorMod(offset, 65536));
    }

    private int register(int n, int bits) {
        return bits == 16 ? words[n] : n < 4 ? words[n] % 256 : words[n - 4] / 256;
    }

    private void giveRegister(int n, int v, int bits) {
        if (bits == 16) {
            words[n] = v & 0xFFFF;
        } else if (n < 4) {
            words[n] = words[n] / 256 * 256 + (v & 255);
        } else {
            words[n - 4] = words[n - 4] % 256 + 256 * (v & 255);
        }
    }

    private int load(Operand e, int bits) {
        return e.segment < 0 ? register(e.number, bits) : load(e.segment, e.number, bits);
    }

    private void give(Operand e, int v, int bits) {
        if (e.segment < 0) {
            giveRegister(e.number, v, bits);
        } else {
            store(e.segment, e.number, bits == 8 ? v & 255 : v & 0xFFFF, bits);
        }
    }

    // Arithmetic.

    private boolean has(int flag) {
        return (flags & flag) != 0;
    }

    private void mark(int flag, boolean on) {
        flags = on ? flags | flag : flags & ~flag;
    }

    private void keepFlags(int v) {
        flags = v & 0xFD5;
    }

    private static int signed(int v, int bits) {
        return v >= 1 << bits - 1 ? v - (1 << bits) : v;
    }

    private int byAnswer(int v, int bits) {
        mark(ZERO, v == 0);
        mark(SIGN, v >= 1 << bits - 1);
        int ones = 0;
        for (int i = 0; i < 8; i++) {
            ones += v >> i & 1;
        }
        mark(PARITY, ones % 2 == 0);
        return v;
    }

    /** A sum, or (sign -1) a difference. */
    private int reckon(int a, int b, int c, int sign, int bits) {
        int all = a + sign * (b + c);
        int four = a % 16 + sign * (b % 16 + c);
        int exact = signed(a, bits) + sign * (signed(b, bits) + c);
        mark(CARRY, all < 0 || all >= 1 << bits);
        mark(HALF, four < 0 || four >= 16);
        mark(OVERFLOW, exact < -(1 << bits - 1) || exact >= 1 << bits - 1);
        return byAnswer(Math.floorMod(all, 1 << bits), bits);
    }

    private int plain(int v, int bits) {
        mark(CARRY | HALF | OVERFLOW, false);
        return byAnswer(v, bits);
    }

    private int operation(int o, int a, int b, int bits) {
        int carry = flags & CARRY;
        switch (o) {
            case 0: return reckon(a, b, 0, 1, bits);
            case 1: return plain(a | b, bits);
            case 2: return reckon(a, b, carry, 1, bits);
            case 3: return reckon(a, b, carry, -1, bits);
            case 4: return plain(a & b, bits);
            case 5: return reckon(a, b, 0, -1, bits);
            case 6: return plain(a ^ b, bits);
            case 7: reckon(a, b, 0, -1, bits); return a;
            case 8: plain(a & b, bits); return a;
            case 9: case 10:
                int v = reckon(a, 1, 0, o == 9 ? 1 : -1, bits);
                mark(CARRY, carry != 0);
                return v;
            case 11: return reckon(0, a, 0, -1, bits);
            default: return (1 << bits) - 1 - a;
        }
    }

    private void operate(int o, Operand e, int b, int bits) {
        int v = operation(o, load(e, bits), b, bits);
        if (o != 7 && o != 8) {
            give(e, v, bits);
        }
    }

    private int shift(int kind, int v, int times, int bits) {
        int top = 1 << bits - 1;
        int a = v;
        for (int i = 0; i < times; i++) {
            int carry = flags & CARRY;
            int before = a / top;
            int out = kind % 2 == 0 ? before : a % 2;
            int[] comes = {out, out, carry, carry, 0, 0, 0, before};
            a = kind % 2 == 0 ? a % top * 2 + comes[kind] : a / 2 + top * comes[kind];
            mark(CARRY, out == 1);
            boolean differ = out != a / top;
            boolean two = a / top != a / (top / 2) % 2;
            boolean[] over = {differ, two, differ, two, differ, before == 1, differ, false};
            mark(OVERFLOW, over[kind]);
            if (kind > 3) {
                byAnswer(a, bits);
            }
        }
        return a;
    }

    private void product(Operand e, boolean withSigns, int bits) {
        long a = register(0, bits);
        long b = load(e, bits);
        if (withSigns) {
            a = signed((int) a, bits);
            b = signed((int) b, bits);
        }
        long all = a * b;
        long lower = Math.floorMod(all, 1L << bits);
        boolean other = all != (withSigns ? signed((int) lower, bits) : lower);
        mark(CARRY | OVERFLOW, other);
        if (bits == 8) {
            words[0] = (int) Math.floorMod(all, 65536L);
        } else {
            words[0] = (int) lower;
            words[2] = (int) Math.floorMod(Math.floorDiv(all, 65536L), 65536L);
        }
    }

    private void quotient(Operand e, boolean withSigns, int bits) {
        long number = bits == 8 ? words[0] : words[2] * 65536L + words[0];
        long by = load(e, bits);
        if (withSigns) {
            long size = 1L << 2 * bits;
            number = number >= size / 2 ? number - size : number;
            by = signed((int) by, bits);
        }
        if (by == 0) {
            interrupt(0);
            return;
        }
        long quotient = number / by;
        long most = withSigns ? (1L << bits - 1) - 1 : (1L << bits) - 1;
        if (quotient > most || quotient < (withSigns ? -most : 0)) {
            interrupt(0);
            return;
        }
        giveRegister(0, (int) quotient, bits);
        giveRegister(bits == 8 ? 4 : 2, (int) (number - quotient * by), bits);
    }

    private void adjust(int kind, int base) {
        int l = words[0] % 256;
        int h = words[0] / 256;
        boolean low = l % 16 > 9 || has(HALF);
        boolean high = l > 153 || has(CARRY);
        switch (kind) {
            case 0:
                l = (l + (low ? 6 : 0) + (high ? 96 : 0)) % 256;
                mark(HALF, low);
                mark(CARRY, high);
                byAnswer(l, 8);
                break;
            case 1:
                mark(HALF, low);
                mark(CARRY, high || low && l - 6 < 0);
                l = Math.floorMod(l - (low ? 6 : 0) - (high ? 96 : 0), 256);
                byAnswer(l, 8);
                break;
            case 2:
            case 3:
                mark(HALF | CARRY, low);
                int sign = kind == 2 ? 1 : -1;
                l = Math.floorMod(l + (low ? 6 * sign : 0), 16);
                h = Math.floorMod(h + (low ? sign : 0), 256);
                break;
            case 4:
                h = l / base;
                l = byAnswer(l % base, 8);
                break;
            default:
                l = byAnswer((h * base + l) % 256, 8);
                h = 0;
                break;
        }
        words[0] = 256 * h + l;
    }

    private boolean holds(int condition) {
        boolean c = has(CARRY);
        boolean z = has(ZERO);
        boolean less = has(SIGN) != has(OVERFLOW);
        boolean[] all = {has(OVERFLOW), c, z, c || z, has(SIGN), has(PARITY), less, less || z};
        return all[condition / 2] == (condition % 2 == 0);
    }

    // Codes.

    private void interrupt(int n) {
        push(flags | 0xF002);
        mark(INTERRUPT | TRAP, false);
        push(segments[1]);
        push(ip);
        ip = load(0, 4 * n, 16);
        segments[1] = load(0, 4 * n + 2, 16);
    }

    private void jumpBy(boolean does, int distance) {
        if (does) {
            ip = Math.floorMod(ip + distance, 65536);
        }
    }

    private void far(boolean call, int toIp, int toCode) {
        if (call) {
            push(segments[1]);
            push(ip);
        }
        ip = toIp;
        segments[1] = toCode;
    }

    private int code() {
        int c = fetch();
        while (c == 0x26 || c == 0x2E || c == 0x36 || c == 0x3E || c >= 0xF0 && c <= 0xF3) {
            if (c < 0x40) {
                prefixSegment = (c - 0x26) / 8;
            } else if (c > 0xF1) {
                repeat = c;
            }
            c = fetch();
        }
        int bits = c % 2 == 0 ? 8 : 16;
        if (c < 0x40) {
            first(c, bits);
        } else if (c < 0x60) {
            int n = c % 8;
            switch (c / 8) {
                case 8: words[n] = operation(9, words[n], 0, 16); break;
                case 9: words[n] = operation(10, words[n], 0, 16); break;
                case 10: pushRegister(n); break;
                default: words[n] = pop(); break;
            }
        } else if (c < 0x80) {
            int to = fetchSigned();
            jumpBy(holds(c % 16), to);
        } else if (c < 0x90) {
            eighties(c, bits);
        } else if (c < 0xA0) {
            nineties(c);
        } else if (c < 0xB0) {
            placesAndStrings(c, bits);
        } else if (c < 0xC0) {
            int size = c < 0xB8 ? 8 : 16;
            giveRegister(c % 8, fetchFor(size), size);
        } else if (c < 0xD0) {
            returns(c, bits);
        } else if (c < 0xE0) {
            shiftsAndOthers(c, bits);
        } else if (c < 0xF0) {
            loopsAndPorts(c, bits);
        } else {
            last(c, bits);
        }
        return c;
    }

    private void pushRegister(int n) {
        if (n == 4) {
            push((words[4] + 65534) % 65536);
        } else {
            push(words[n]);
        }
    }

    private void first(int c, int bits) {
        int o = c / 8;
        switch (c % 8) {
            case 0: case 1: {
                Operand e = fetchM();
                operate(o, e, register(r, bits), bits);
                break;
            }
            case 2: case 3: {
                Operand e = fetchM();
                int n = r;
                giveRegister(n, operation(o, register(n, bits), load(e, bits), bits), bits);
                break;
            }
            case 4: case 5:
                giveRegister(0, operation(o, register(0, bits), fetchFor(bits), bits), bits);
                break;
            case 6:
                push(segments[o]);
                break;
            default:
                if (c < 0x20) {
                    segments[o] = pop();
                } else {
                    adjust((c - 0x27) / 8, 0);
                }
                break;
        }
    }

    private void eighties(int c, int bits) {
        Operand e = fetchM();
        int v;
        switch (c) {
            case 0x80: case 0x81: case 0x82: operate(r, e, fetchFor(bits), bits); break;
            case 0x83: operate(r, e, fetchSigned() & 0xFFFF, 16); break;
            case 0x84: case 0x85: operate(8, e, register(r, bits), bits); break;
            case 0x86: case 0x87:
                v = load(e, bits);
                give(e, register(r, bits), bits);
                giveRegister(r, v, bits);
                break;
            case 0x88: case 0x89: give(e, register(r, bits), bits); break;
            case 0x8A: case 0x8B: giveRegister(r, load(e, bits), bits); break;
            case 0x8C: give(e, segments[r % 4], 16); break;
            case 0x8D:
                if (mode == 3) {
                    throw new NoCode();
                }
                words[r] = e.number;
                break;
            case 0x8E: segments[r % 4] = load(e, 16); break;
            default: give(e, pop(), 16); break;
        }
    }

    private void nineties(int c) {
        int v;
        switch (c) {
            case 0x98: words[0] = signed(words[0] % 256, 8) & 0xFFFF; break;
            case 0x99: words[2] = words[0] >= 32768 ? 65535 : 0; break;
            case 0x9A:
                v = fetchWord();
                far(true, v, fetchWord());
                break;
            case 0x9B: break;
            case 0x9C: push(flags | 0xF002); break;
            case 0x9D: keepFlags(pop()); break;
            case 0x9E: keepFlags(flags / 256 * 256 + words[0] / 256); break;
            case 0x9F: giveRegister(4, flags % 256 | 2, 8); break;
            default:
                v = words[c % 8];
                words[c % 8] = words[0];
                words[0] = v;
                break;
        }
    }

    private void placesAndStrings(int c, int bits) {
        if (c < 0xA4) {
            int offset = fetchWord();
            if (c < 0xA2) {
                giveRegister(0, load(segment(3), offset, bits), bits);
            } else {
                store(segment(3), offset, register(0, bits), bits);
            }
        } else if (c == 0xA8 || c == 0xA9) {
            operation(8, register(0, bits), fetchFor(bits), bits);
        } else if (repeat == 0) {
            string(c, bits);
        } else {
            boolean compares = c == 0xA6 || c == 0xA7 || c >= 0xAE;
            int times = 0;
            boolean goesOn = words[1] != 0;
            while (goesOn && times < 64) {
                words[1]--;
                string(c, bits);
                times++;
                goesOn = words[1] != 0 && !(compares && has(ZERO) != (repeat == 0xF3));
            }
            repetitions += times;
            if (goesOn) {
                ip = begin;
            }
        }
    }

    private void string(int c, int bits) {
        int by = (has(DIRECTION) ? -1 : 1) * bits / 8;
        boolean usesSource = c < 0xA8 || c == 0xAC || c == 0xAD;
        boolean usesTarget = c != 0xAC && c != 0xAD;
        int source = segment(3);
        switch (c / 2 * 2) {
            case 0xA4: store(segments[0], words[7], load(source, words[6], bits), bits); break;
            case 0xA6: operation(7, load(source, words[6], bits), load(segments[0], words[7], bits), bits); break;
            case 0xAA: store(segments[0], words[7], register(0, bits), bits); break;
            case 0xAC: giveRegister(0, load(source, words[6], bits), bits); break;
            default: operation(7, register(0, bits), load(segments[0], words[7], bits), bits); break;
        }
        words[6] = Math.floorMod(words[6] + (usesSource ? by : 0), 65536);
        words[7] = Math.floorMod(words[7] + (usesTarget ? by : 0), 65536);
    }

    private void returns(int c, int bits) {
        switch (c) {
            case 0xC0: case 0xC1: case 0xC2: case 0xC3: case 0xC8: case 0xC9: case 0xCA: case 0xCB:
                int n = bits == 8 ? fetchWord() : 0;
                ip = pop();
                if (c > 0xC7) {
                    segments[1] = pop();
                }
                words[4] = (words[4] + n) % 65536;
                break;
            case 0xC4: case 0xC5: {
                Operand e = fetchM();
                if (mode == 3) {
                    throw new NoCode();
                }
                int v = load(e.segment, e.number, 16);
                segments[c == 0xC4 ? 0 : 3] = load(e.segment, e.number + 2, 16);
                words[r] = v;
                break;
            }
            case 0xC6: case 0xC7: {
                Operand e = fetchM();
                give(e, fetchFor(bits), bits);
                break;
            }
            case 0xCC: interrupt(3); break;
            case 0xCD: interrupt(fetch()); break;
            case 0xCE:
                if (has(OVERFLOW)) {
                    interrupt(4);
                }
                break;
            default:
                ip = pop();
                segments[1] = pop();
                keepFlags(pop());
                break;
        }
    }

    private void shiftsAndOthers(int c, int bits) {
        if (c < 0xD4) {
            Operand e = fetchM();
            give(e, shift(r, load(e, bits), c < 0xD2 ? 1 : words[1] % 256, bits), bits);
        } else if (c < 0xD6) {
            int base = fetch();
            if (c == 0xD4 && base == 0) {
                interrupt(0);
            } else {
                adjust(c == 0xD4 ? 4 : 5, base);
            }
        } else if (c == 0xD6) {
            giveRegister(0, has(CARRY) ? 255 : 0, 8);
        } else if (c == 0xD7) {
            giveRegister(0, load(segment(3), words[3] + words[0] % 256, 8), 8);
        } else {
            fetchM();
        }
    }

    private void loopsAndPorts(int c, int bits) {
        if (c < 0xE4) {
            int to = fetchSigned();
            if (c < 0xE3) {
                words[1] = (words[1] + 65535) % 65536;
            }
            boolean[] does = {words[1] != 0 && !has(ZERO), words[1] != 0 && has(ZERO), words[1] != 0, words[1] == 0};
            jumpBy(does[c - 0xE0], to);
        } else if (c >= 0xE8 && c < 0xEC) {
            if (c == 0xEB) {
                jumpBy(true, fetchSigned());
                return;
            }
            int to = fetchWord();
            if (c == 0xEA) {
                far(false, to, fetchWord());
                return;
            }
            if (c == 0xE8) {
                push(ip);
            }
            jumpBy(true, to);
        } else {
            int p = (c < 0xE8 ? fetch() : words[2]) % 256;
            int next = (p + 1) % 256;
            if (c % 4 < 2) {
                giveRegister(0, ports[p] + (bits == 16 ? 256 * ports[next] : 0), bits);
            } else {
                ports[p] = words[0] % 256;
                if (bits == 16) {
                    ports[next] = words[0] / 256;
                }
            }
        }
    }

    private void last(int c, int bits) {
        switch (c) {
            case 0xF4: halted = true; break;
            case 0xF5: mark(CARRY, !has(CARRY)); break;
            case 0xF8: case 0xF9: mark(CARRY, c == 0xF9); break;
            case 0xFA: case 0xFB: mark(INTERRUPT, c == 0xFB); break;
            case 0xFC: case 0xFD: mark(DIRECTION, c == 0xFD); break;
            case 0xF6: case 0xF7: {
                Operand e = fetchM();
                switch (r) {
                    case 0: case 1: operate(8, e, fetchFor(bits), bits); break;
                    case 2: operate(12, e, 0, bits); break;
                    case 3: operate(11, e, 0, bits); break;
                    case 4: case 5: product(e, r == 5, bits); break;
                    default: quotient(e, r == 7, bits); break;
                }
                break;
            }
            default:
                steps(c, fetchM(), bits);
                break;
        }
    }

    /** FE and FF. */
    private void steps(int c, Operand e, int bits) {
        if (c == 0xFE && r > 1 || mode == 3 && (r == 3 || r == 5)) {
            throw new NoCode();
        }
        if (r < 2) {
            operate(9 + r, e, 0, bits);
        } else if (r > 5) {
            if (mode == 3) {
                pushRegister(e.number);
            } else {
                push(load(e, 16));
            }
        } else if (r == 3 || r == 5) {
            far(r == 3, load(e, 16), load(e.segment, e.number + 2, 16));
        } else {
            int to = load(e, 16);
            if (r == 2) {
                push(ip);
            }
            ip = to;
        }
    }
}

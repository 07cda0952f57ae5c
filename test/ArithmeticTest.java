/** Promise 9: the operations, shifts, products, quotients and adjustments, each against the document's words. */
public final class ArithmeticTest {
    private static final int CARRY = 1;
    private static final int PARITY = 4;
    private static final int HALF = 16;
    private static final int ZERO = 64;
    private static final int SIGN = 128;
    private static final int OVERFLOW = 2048;
    private static final int[] EDGES = {0, 1, 2, 5, 6, 9, 10, 15, 16, 127, 128, 129, 153, 154, 160, 254, 255, 256, 0x7FFF,
        0x8000, 0x8001, 0xFF00, 0xFFFE, 0xFFFF, 0x1234, 0xA5C3};

    private static MachineCore x;
    private static int left = 0;
    private static int flags;

    public static void main(String[] args) {
        operations();
        shifts();
        products();
        quotients();
        adjustments();
        Checks.finish();
    }

    /** One step of M's code with mode register: e is B (BL), r or A is A (AL), D and C besides. */
    private static MachineCore made(int code, int m, int a, int b, int f) {
        if (left < 10) {
            x = new MachineCore();
            left = 512;
        }
        left -= 10;
        x.write(0, code << 24 | m << 16);
        x.set(12, 0);
        x.set(0, a);
        x.set(3, b);
        x.set(13, f);
        x.run(1);
        return x;
    }

    private static void mark(int flag, boolean on) {
        flags = on ? flags | flag : flags & ~flag;
    }

    private static void byAnswer(long v, int bits) {
        mark(ZERO, v == 0);
        mark(SIGN, v >= 1L << bits - 1);
        int ones = 0;
        for (int i = 0; i < 8; i++) {
            ones += v >> i & 1;
        }
        mark(PARITY, ones % 2 == 0);
    }

    private static long signed(long v, int bits) {
        return v >= 1L << bits - 1 ? v - (1L << bits) : v;
    }

    private static boolean isSigned(long v, int bits) {
        return v >= -(1L << bits - 1) && v < 1L << bits - 1;
    }

    private static long sum(long a, long b, long c, int bits) {
        long v = (a + b + c) % (1L << bits);
        mark(CARRY, a + b + c >= 1L << bits);
        mark(HALF, a % 16 + b % 16 + c >= 16);
        mark(OVERFLOW, !isSigned(signed(a, bits) + signed(b, bits) + c, bits));
        byAnswer(v, bits);
        return v;
    }

    private static long difference(long a, long b, long c, int bits) {
        long v = (a - b - c + (2L << bits)) % (1L << bits);
        mark(CARRY, a - b - c < 0);
        mark(HALF, a % 16 - b % 16 - c < 0);
        mark(OVERFLOW, !isSigned(signed(a, bits) - signed(b, bits) - c, bits));
        byAnswer(v, bits);
        return v;
    }

    private static long plain(long v, int bits) {
        mark(CARRY | HALF | OVERFLOW, false);
        byAnswer(v, bits);
        return v;
    }

    private static long operation(int o, long a, long b, int bits) {
        int c = flags & CARRY;
        switch (o) {
            case 0:
                return sum(a, b, 0, bits);
            case 1:
                return plain(a | b, bits);
            case 2:
                return sum(a, b, c, bits);
            case 3:
                return difference(a, b, c, bits);
            case 4:
                return plain(a & b, bits);
            case 5:
                return difference(a, b, 0, bits);
            case 6:
                return plain(a ^ b, bits);
            default:
                difference(a, b, 0, bits);
                return a;
        }
    }

    private static void operations() {
        for (int o = 0; o < 8; o++) {
            for (int a = 0; a < 256; a++) {
                for (int b = a % 3; b < 256; b += 3) {
                    operate(o, a, b, 8, (a + b) % 2 == 0 ? 0xFD5 : 0);
                    if (o == 2 || o == 3) {
                        operate(o, a, b, 8, (a + b) % 2 == 0 ? 0 : 1);
                    }
                }
            }
            for (int a : EDGES) {
                for (int b : EDGES) {
                    operate(o, a, b, 16, 0xFD5 & ~0x300);
                    operate(o, a, b, 16, 0);
                }
            }
        }
    }

    private static void operate(int o, int a, int b, int bits, int f) {
        int start = f & ~0x300;
        flags = start;
        long want = operation(o, b, a, bits);
        MachineCore m = made(8 * o + (bits == 16 ? 1 : 0), 0xC3, a, b, start);
        String what = "operation " + o + " of " + b + " and " + a + " with " + start;
        Checks.due(what, m.get(3), want);
        Checks.due(what + " FLAGS", m.get(13), flags);
    }

    private static void shifts() {
        int[] times = {0, 1, 2, 3, 7, 8, 9, 15, 16, 17, 18, 31, 32, 33, 34, 100, 255};
        for (int kind = 0; kind < 8; kind++) {
            for (int n : times) {
                for (int a = 0; a < 256; a += n < 10 ? 1 : 7) {
                    shift(kind, a, n, 8, 0);
                    shift(kind, a, n, 8, 0xCD5);
                }
                for (int a : EDGES) {
                    shift(kind, a, n, 16, 0);
                    shift(kind, a, n, 16, 0xCD5);
                }
            }
        }
    }

    private static void shift(int kind, int a, int n, int bits, int f) {
        flags = f;
        boolean[] row = new boolean[bits];
        for (int i = 0; i < bits; i++) {
            row[i] = (a >> i & 1) != 0;
        }
        for (int i = 0; i < n; i++) {
            shiftRow(kind, row);
        }
        long want = 0;
        for (int i = 0; i < bits; i++) {
            want += row[i] ? 1L << i : 0;
        }
        if (n > 0 && kind > 3) {
            byAnswer(want, bits);
        }
        if (left < 20) {
            left = 0;
        }
        MachineCore m = made(0x9B, 0, 0, 0, 0);
        left -= 2;
        m.set(1, 0x5500 + n);
        m = made(0xD2 + (bits == 16 ? 1 : 0), 0xC3 + 8 * kind, 0, a, f);
        String what = "shift " + kind + " of " + a + ", " + n + " times with " + f;
        Checks.due(what, m.get(3), want);
        Checks.due(what + " FLAGS", m.get(13), flags);
    }

    private static void shiftRow(int kind, boolean[] row) {
        int last = row.length - 1;
        boolean before = row[last];
        boolean carry = (flags & CARRY) != 0;
        boolean left = kind % 2 == 0;
        boolean out = left ? before : row[0];
        boolean in = kind < 2 ? out : kind < 4 ? carry : kind == 7 && before;
        for (int i = 0; i < last; i++) {
            int to = left ? last - i : i;
            row[to] = row[left ? to - 1 : to + 1];
        }
        row[left ? 0 : last] = in;
        mark(CARRY, out);
        boolean overflow = left ? out != row[last] : kind == 5 ? before : kind != 7 && row[last] != row[last - 1];
        mark(OVERFLOW, overflow);
    }

    private static void products() {
        for (int a = 0; a < 256; a++) {
            for (int b = 0; b < 256; b += 5) {
                product(a, b, 8, false);
                product(a, b, 8, true);
            }
        }
        for (int a : EDGES) {
            for (int b : EDGES) {
                product(a, b, 16, false);
                product(a, b, 16, true);
            }
        }
    }

    private static void product(int a, int b, int bits, boolean withSigns) {
        long all = withSigns ? signed(a, bits) * signed(b, bits) : (long) a * b;
        long size = 1L << bits;
        long lower = Math.floorMod(all, size);
        flags = 0x4D4;
        mark(CARRY | OVERFLOW, all != (withSigns ? signed(lower, bits) : lower));
        MachineCore m = made(0xF6 + (bits == 16 ? 1 : 0), withSigns ? 0xEB : 0xE3, bits == 8 ? 0x9900 + a : a, b, 0x4D4);
        String what = "product of " + a + " and " + b + (withSigns ? " signed" : "");
        Checks.due(what, m.get(0), Math.floorMod(all, 65536L));
        if (bits == 16) {
            Checks.due(what + " upper", m.get(2), Math.floorMod(all >> 16, 65536L));
        }
        Checks.due(what + " FLAGS", m.get(13), flags);
    }

    private static void quotients() {
        for (int a = 0; a < 65536; a += 13) {
            for (int b = a % 7; b < 256; b += 37) {
                quotient(a, b, false);
                quotient(a, b, true);
            }
        }
    }

    /** Interrupt 0 goes to where the code is, so IP tells whether there was one: CODE 0, IP from places 0 and 1. */
    private static void quotient(int a, int b, boolean withSigns) {
        long number = withSigns ? signed(a, 16) : a;
        long by = withSigns ? signed(b, 8) : b;
        boolean none = by == 0;
        long quotient = 0;
        if (!none) {
            quotient = Math.abs(number) / Math.abs(by) * (number < 0 == by < 0 ? 1 : -1);
            none = withSigns ? Math.abs(quotient) > 127 : quotient > 255;
        }
        MachineCore m = made(0xF6, withSigns ? 0xFB : 0xF3, a, b, 0xCD5);
        String what = "quotient of " + a + " and " + b + (withSigns ? " signed" : "");
        long rest = number - quotient * by;
        long want = none ? a : Math.floorMod(quotient, 256L) + 256 * Math.floorMod(rest, 256L);
        Checks.due(what, m.get(0), want);
        Checks.due(what + " IP", m.get(12), none ? (withSigns ? 0xFBF6 : 0xF3F6) : 2);
        Checks.due(what + " FLAGS", m.get(13), 0xCD5);
    }

    private static void adjustments() {
        int[] codes = {0x27, 0x2F, 0x37, 0x3F};
        int[] sets = {0, CARRY, HALF, CARRY | HALF, 0xCC4};
        for (int code : codes) {
            for (int a = 0; a < 256; a++) {
                for (int f : sets) {
                    adjust(code, a + 0xFF00, f);
                    adjust(code, a, f);
                }
            }
        }
        for (int base = 0; base < 256; base += 3) {
            for (int a = 0; a < 65536; a += 1111) {
                adjust(base << 16 | 0xD5, a, 0xCD5);
                if (base != 0) {
                    adjust(base << 16 | 0xD4, a, 0);
                }
            }
        }
    }

    private static void adjust(int code, int a, int f) {
        flags = f;
        int l = a % 256;
        int h = a / 256;
        int base = code >> 16;
        boolean six = l % 16 > 9 || (f & HALF) != 0;
        int sign = (code & 8) == 0 ? 1 : -1;
        int c = code & 255;
        if (c == 0x27 || c == 0x2F) {
            boolean more = l > 153 || (f & CARRY) != 0;
            mark(CARRY, more || sign < 0 && six && l < 6);
            mark(HALF, six);
            l = Math.floorMod(l + (six ? 6 : 0) * sign + (more ? 96 : 0) * sign, 256);
            byAnswer(l, 8);
        } else if (c == 0x37 || c == 0x3F) {
            mark(CARRY | HALF, six);
            l = Math.floorMod(l + (six ? 6 : 0) * sign, 16);
            h = Math.floorMod(h + (six ? sign : 0), 256);
        } else if (c == 0xD4) {
            h = l / base;
            l = l % base;
            byAnswer(l, 8);
        } else {
            l = (h * base + l) % 256;
            h = 0;
            byAnswer(l, 8);
        }
        MachineCore m = made(c, base, a, 0, f);
        String what = "adjustment by " + Integer.toHexString(c) + " of " + a + " with " + f + " base " + base;
        Checks.due(what, m.get(0), 256 * h + l);
        Checks.due(what + " FLAGS", m.get(13), flags);
    }
}

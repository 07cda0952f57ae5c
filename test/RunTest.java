/** Promise 9: run; what is NO CODE, and prefixes. */
public final class RunTest {
    public static void main(String[] args) {
        numbers();
        noCodes();
        lengths();
        allLengths();
        prefixes();
        codeOverTheEdge();
        noCodeIsNoStep();
        Checks.finish();
    }

    private static int tellsRun(MachineCore x, int n) {
        try {
            return x.run(n);
        } catch (IllegalArgumentException e) {
            return e.getClass() == IllegalArgumentException.class ? -7 : -8;
        }
    }

    private static void numbers() {
        MachineCore x = Checks.machine("EB FE");
        int[] wrong = {-1, 501, 10001, Integer.MIN_VALUE, Integer.MAX_VALUE};
        for (int n : wrong) {
            Checks.due("run " + n + " throws", tellsRun(x, n), -7);
            Checks.due("no step", x.count(0), 0);
        }
        int steps = 0;
        int[] good = {0, 1, 2, 499, 500};
        for (int n : good) {
            Checks.due("run " + n, tellsRun(x, n), MachineCore.DONE);
            steps += n;
            Checks.due("steps", x.count(0), steps);
        }
        MachineCore y = Checks.machine("90 90 FE D0");
        Checks.due("two steps", y.run(2), MachineCore.DONE);
        Checks.due("none at a NO CODE", y.run(0), MachineCore.DONE);
        Checks.due("NO CODE", y.run(500), MachineCore.NO_CODE);
        Checks.due("steps", y.count(0), 2);
        y.write(0x10012, 0x90F49090);
        Checks.due("HALTED", y.run(500), MachineCore.HALTED);
        Checks.due("steps", y.count(0), 4);
    }

    private static void noCodes() {
        for (int m = 0; m < 256; m++) {
            int r = m >> 3 & 7;
            boolean register = m >= 0xC0;
            String hex = String.format("%02X1234", m);
            tell("8D" + hex, register);
            tell("C4" + hex, register);
            tell("C5" + hex, register);
            tell("FE" + hex, r > 1);
            tell("FF" + hex, register && (r == 3 || r == 5));
        }
        for (int c = 0; c < 256; c++) {
            if (c == 0x8D || c == 0xC4 || c == 0xC5 || c == 0xFE || c == 0xFF) {
                continue;
            }
            String hex = String.format("%02X", c);
            boolean prefix = "26 2E 36 3E F0 F1 F2 F3".contains(hex);
            for (int m = 0; m < 256; m += 5) {
                tell(hex + (prefix ? "90" : "") + String.format("%02X1122334455", m), false);
            }
        }
        Checks.noCode("FE D0", "A=1234 F=FD5 SP=0");
        Checks.noCode("FE 56 12", "BP=1234");
        Checks.noCode("2E F3 FE 3E 34 12", "C=5");
        Checks.noCode("FF D8", "C=5");
        Checks.noCode("FF E8", "C=5");
        Checks.noCode("26 8D C3", "B=77");
        Checks.noCode("F3 C5 FF", "B=77");
    }

    private static void tell(String code, boolean none) {
        MachineCore x = Checks.machine(code);
        Checks.due(code + " is NO CODE", x.run(1) == MachineCore.NO_CODE ? 1 : 0, none ? 1 : 0);
        Checks.due(code + " steps", x.count(0), none ? 0 : 1);
    }

    private static String prefixed(int n, String code) {
        StringBuilder b = new StringBuilder();
        for (int i = 0; i < n; i++) {
            b.append(i % 2 == 0 ? "26" : "F0");
        }
        return b + code;
    }

    /** All bytes of a code count, also those of what follows M. */
    private static void lengths() {
        String[] codes = {"90", "B012", "B83412", "EB00", "050000", "A00000", "80C012", "81C03412", "81060000FFFF",
            "C6060000FF", "C7060000FFFF", "8B871234", "F6060000FF", "F7060000FFFF", "F7160000", "83471201",
            "9A00000050", "EA00000050", "D40A", "C20000", "CD21", "D9060000", "E412", "FF360000", "A4", "CC"};
        for (String code : codes) {
            int length = Checks.bytes(code).length;
            Checks.due(code + " has 15", Checks.machine(prefixed(15 - length, code)).run(1), MachineCore.DONE);
            Checks.due(code + " has 16", Checks.machine(prefixed(16 - length, code)).run(1), MachineCore.NO_CODE);
            Checks.noCode(prefixed(16 - length, code), "A=1234 C=3 F=FFFF [40000]=1234");
        }
        Checks.noCode(prefixed(14, ""), "[1001E]=26269090");
        Checks.noCode(prefixed(500, "90"), "");
        Checks.noCode("262626262626262626262626262690A0".replace("90A0", "B83412"), "");
    }

    /** How many bytes follow M itself, by mode and m. */
    private static int displacement(int m) {
        int mode = m >> 6;
        if (mode == 0) {
            return (m & 7) == 6 ? 2 : 0;
        }
        return mode == 3 ? 0 : mode;
    }

    private static boolean hasM(int c) {
        return c < 0x40 && (c & 4) == 0 || c >= 0x80 && c < 0x90 || c >= 0xC4 && c < 0xC8 || c >= 0xD0 && c < 0xD4
                || c >= 0xD8 && c < 0xE0 || c == 0xF6 || c == 0xF7 || c >= 0xFE;
    }

    /** How many bytes i and the like have. */
    private static int behind(int c, int r) {
        int w = c % 2;
        if (c < 0x40) {
            return (c & 6) == 4 ? 1 + w : 0;
        }
        if (c == 0xF6 || c == 0xF7) {
            return r < 2 ? 1 + w : 0;
        }
        if (c == 0x81 || c == 0xC7 || c >= 0xA0 && c < 0xA4 || c == 0xA9 || c >= 0xB8 && c < 0xC0) {
            return 2;
        }
        if (c == 0xC0 || c == 0xC2 || c == 0xC8 || c == 0xCA || c == 0xE8 || c == 0xE9) {
            return 2;
        }
        if (c == 0x9A || c == 0xEA) {
            return 4;
        }
        boolean one = c >= 0x60 && c < 0x80 || c >= 0x80 && c < 0x84 || c == 0xA8 || c >= 0xB0 && c < 0xB8 || c == 0xC6
                || c == 0xCD || c == 0xD4 || c == 0xD5 || c >= 0xE0 && c < 0xE8 || c == 0xEB;
        return one ? 1 : 0;
    }

    /** With so many prefixes that it has 15 bytes each code is done; with one more it is NO CODE. */
    private static void allLengths() {
        for (int c = 0; c < 256; c++) {
            boolean prefix = (c & 0xE7) == 0x26 || c >= 0xF0 && c <= 0xF3;
            for (int m = 0; m < 256 && !prefix; m += hasM(c) ? 1 : 97) {
                int r = m >> 3 & 7;
                boolean none = (c == 0x8D || c == 0xC4 || c == 0xC5) && m >= 0xC0 || c == 0xFE && r > 1
                        || c == 0xFF && m >= 0xC0 && (r == 3 || r == 5);
                int length = 1 + (hasM(c) ? 1 + displacement(m) : 0) + behind(c, r);
                String code = String.format("%02X%02X0102030405", c, m);
                int due = none ? MachineCore.NO_CODE : MachineCore.DONE;
                Checks.due(code + " to 15", Checks.machine(prefixed(15 - length, code)).run(1), due);
                Checks.due(code + " to 16", Checks.machine(prefixed(16 - length, code)).run(1), MachineCore.NO_CODE);
            }
        }
    }

    private static void prefixes() {
        String bytes = "[30005]=11 [40005]=22 [20005]=33 [10005]=44";
        Checks.step("A0 05 00", bytes, "A=11");
        Checks.step("26 A0 05 00", bytes, "A=22");
        Checks.step("2E A0 05 00", bytes, "A=44");
        Checks.step("36 A0 05 00", bytes, "A=33");
        Checks.step("3E A0 05 00", bytes, "A=11");
        Checks.step("26 36 A0 05 00", bytes, "A=33");
        Checks.step("36 26 F0 F1 F2 F3 A0 05 00", bytes, "A=22");
        Checks.step("3E 8A 46 05", bytes, "A=11");
        Checks.step("8A 46 05", bytes, "A=33");
        Checks.step("26 8A 07", bytes + " B=5", "A=22");
        Checks.step("26 A2 05 00", bytes + " A=99", "[40005]=99 [30005]=11");
        Checks.step("26 D7", bytes + " B=3 A=1202", "A=1222");
        Checks.step("26 50", "A=1234", "SP=FE [200FE]=3412");
        Checks.step("F3 40", "C=5", "A=1 F=0");
        Checks.step("F2 90", "C=0", "");
        Checks.step("F3 90", "C=9", "");
        Checks.step("F3 F7 E1", "C=2 A=3", "A=6 D=0");
    }

    private static void codeOverTheEdge() {
        MachineCore x = Checks.machine("");
        x.set(12, 0xFFFE);
        Checks.put(x, 0x1FFFC, "0000B834");
        Checks.put(x, 0x10000, "12");
        Checks.due("run", x.run(1), 0);
        Checks.due("A", x.get(0), 0x1234);
        Checks.due("IP", x.get(12), 1);
        MachineCore y = Checks.machine("");
        y.set(9, 0xFFFF);
        y.set(12, 0xE);
        Checks.put(y, 0xFFFFC, "0000B834");
        Checks.put(y, 0, "12");
        Checks.due("run", y.run(1), 0);
        Checks.due("A", y.get(0), 0x1234);
        Checks.due("IP", y.get(12), 0x11);
        Checks.noCode("FE D0", "");
        MachineCore z = Checks.machine("");
        z.set(12, 0xFFFF);
        Checks.put(z, 0x1FFFC, "000000FE");
        Checks.put(z, 0x10000, "D0");
        Checks.due("NO CODE over the edge", z.run(1), MachineCore.NO_CODE);
        Checks.due("IP", z.get(12), 0xFFFF);
    }

    private static void noCodeIsNoStep() {
        MachineCore x = Checks.machine("8E C0 FE D0");
        x.set(13, 512 + 256);
        x.write(36, 0x09000050);
        x.line(9);
        x.line(-1);
        x.run(1);
        x.line(9);
        Checks.due("NO CODE behind 8E", x.run(1), MachineCore.NO_CODE);
        Checks.due("the last step is still 8E", x.run(1), MachineCore.NO_CODE);
        Checks.due("steps", x.count(0), 1);
        x.write(0x10012, 0x90909090);
        x.run(1);
        Checks.due("a code", x.get(12), 0x13);
    }
}

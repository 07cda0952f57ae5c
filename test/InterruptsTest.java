/** Promise 8 and what a step is: the LINE, INTERRUPTS, TRAP, HALT. */
public final class InterruptsTest {
    private static final int TRAP = 256;
    private static final int INTERRUPT = 512;

    public static void main(String[] args) {
        lineNumbers();
        lineWaits();
        lineAndSegments();
        lineAndHalt();
        whatIsPushed();
        vectorsAreReadBehindThePushes();
        traps();
        trapsAndCalledInterrupts();
        trapsAndSegments();
        trapFirst();
        trapAndHalt();
        trapByFlagsPopped();
        Checks.finish();
    }

    /** Interrupt n goes to CODE 5000, IP n. */
    private static MachineCore machine(String code, int... vectors) {
        MachineCore x = Checks.machine(code);
        for (int n : vectors) {
            x.write(4 * n, n << 24 | 0x50);
        }
        return x;
    }

    private static void at(String what, MachineCore x, int segment, int ip, int flags) {
        Checks.due(what + " CODE", x.get(9), segment);
        Checks.due(what + " IP", x.get(12), ip);
        Checks.due(what + " FLAGS", x.get(13), flags);
    }

    private static int tellsLine(MachineCore x, int n) {
        try {
            x.line(n);
        } catch (IllegalArgumentException e) {
            return e.getClass() == IllegalArgumentException.class ? 1 : 2;
        }
        return 0;
    }

    private static void lineNumbers() {
        int[] good = {0, 1, 9, 255};
        for (int n : good) {
            MachineCore x = machine("90 90 90", n);
            x.set(13, INTERRUPT);
            Checks.due("line " + n, tellsLine(x, n), 0);
            Checks.due("line " + n + " run", x.run(1), 0);
            at("line " + n, x, 0x5000, n, 0);
        }
        int[] wrong = {256, 257, Integer.MAX_VALUE};
        for (int n : wrong) {
            MachineCore x = machine("90 90 90", 9);
            x.set(13, INTERRUPT);
            Checks.due("line 9", tellsLine(x, 9), 0);
            Checks.due("line " + n + " throws", tellsLine(x, n), 1);
            x.run(1);
            at("line stays 9", x, 0x5000, 9, 0);
        }
        int[] empty = {-1, -2, Integer.MIN_VALUE};
        for (int n : empty) {
            MachineCore x = machine("90 90 90", 9);
            x.set(13, INTERRUPT);
            x.line(9);
            Checks.due("line " + n, tellsLine(x, n), 0);
            x.run(1);
            at("line is empty", x, 0x1000, 0x11, INTERRUPT);
        }
        MachineCore last = machine("90 90", 9, 10);
        last.set(13, INTERRUPT);
        last.line(9);
        last.line(10);
        last.run(1);
        at("the last number counts", last, 0x5000, 10, 0);
    }

    private static void lineWaits() {
        MachineCore x = machine("90 FB 90", 9);
        x.line(9);
        x.run(1);
        at("INTERRUPT is not set", x, 0x1000, 0x11, 0);
        x.run(1);
        at("it is set", x, 0x1000, 0x12, INTERRUPT);
        x.run(1);
        at("taken", x, 0x5000, 9, 0);
        Checks.due("steps", x.count(0), 3);
        x.set(13, INTERRUPT);
        x.write(0x50009, 0x90909090);
        x.run(1);
        at("the LINE is empty", x, 0x5000, 10, INTERRUPT);
        x.line(9);
        x.run(1);
        at("again", x, 0x5000, 9, 0);
    }

    private static void lineAndSegments() {
        String[] giving = {"07", "17", "1F", "8E C0", "8E D0", "8E 1F"};
        for (String code : giving) {
            MachineCore x = machine(code + "90 90", 9);
            x.set(13, INTERRUPT);
            int segment = code.equals("8E D0") || code.equals("17") ? 10 : 13;
            x.run(1);
            x.line(9);
            x.run(1);
            Checks.due(code + " gave a segment: a code first", x.get(12), 0x11 + Checks.bytes(code).length);
            Checks.due(code + " kept", x.get(segment), segment == 10 ? 0 : INTERRUPT);
            x.run(1);
            at(code + " then the LINE", x, 0x5000, 9, 0);
        }
        MachineCore code = machine("0F", 9);
        code.set(13, INTERRUPT);
        code.write(0x11, 0x90909090);
        code.run(1);
        Checks.due("CODE popped", code.get(9), 0);
        code.line(9);
        code.run(1);
        Checks.due("0F gave a segment", code.get(9), 0);
        code.run(1);
        at("0F then the LINE", code, 0x5000, 9, 0);
        String[] others = {"06", "0E", "58", "8C C0", "C4 07", "C5 07", "9B", "26 90"};
        for (String other : others) {
            MachineCore x = machine(other + "90 90", 9);
            x.set(13, INTERRUPT);
            x.run(1);
            x.line(9);
            x.run(1);
            at(other + " gives none: the LINE at once", x, 0x5000, 9, 0);
        }
    }

    private static void lineAndHalt() {
        MachineCore x = machine("F4 90 90", 9);
        Checks.due("run over HALT", x.run(2), MachineCore.HALTED);
        Checks.due("IP behind", x.get(12), 0x11);
        Checks.due("steps", x.count(0), 1);
        Checks.due("run 0", x.run(0), MachineCore.DONE);
        x.line(9);
        Checks.due("not set", x.run(500), MachineCore.HALTED);
        x.set(12, 0x12);
        Checks.due("still", x.run(1), MachineCore.HALTED);
        x.set(12, 0x11);
        x.set(13, INTERRUPT);
        x.line(-1);
        Checks.due("empty", x.run(1), MachineCore.HALTED);
        x.line(9);
        Checks.due("goes on", x.run(1), MachineCore.DONE);
        at("at 9", x, 0x5000, 9, 0);
        Checks.due("pushed IP", x.byteAt(0x200FA), 0x11);
        x.write(0x50009, 0xCF000000);
        Checks.due("no longer held", x.run(2), MachineCore.DONE);
        at("behind the next code", x, 0x1000, 0x12, INTERRUPT);
        MachineCore y = machine("F4");
        Checks.due("the HALT is a step", y.run(1), MachineCore.DONE);
        Checks.due("then it holds", y.run(1), MachineCore.HALTED);
        MachineCore z = machine("F4", 9);
        z.write(0x50009, 0xF4000000);
        z.set(13, INTERRUPT);
        z.line(9);
        Checks.due("to the HALT there", z.run(3), MachineCore.HALTED);
        at("in the interrupt", z, 0x5000, 10, 0);
    }

    private static void whatIsPushed() {
        Checks.step("CD 21", "F=FD5 [00084]=78563412",
                "IP=5678 CODE=1234 F=CD5 SP=FA [200FA]=12000010D7FF");
        Checks.step("CC", "[0000C]=78563412 F=0", "IP=5678 CODE=1234 SP=FA [200FA]=1100001002F0");
        Checks.step("CE", "[00010]=78563412 F=800", "IP=5678 CODE=1234 SP=FA [200FA]=1100001002F8");
        Checks.step("CE", "[00010]=78563412 F=7D5", "F=7D5");
        Checks.step("CD FF", "[003FC]=78563412 F=200", "IP=5678 CODE=1234 F=0 SP=FA [200FA]=1200001002F2");
        Checks.step("CD 00", "SP=3 [00000]=78563412", "IP=5678 CODE=1234 SP=FFFD [2FFFD]=120000 [20000]=1002F0");
        Checks.step("CF", "[20100]=341278560301", "IP=1234 CODE=5678 F=101 SP=106");
        Checks.step("CF", "SP=FFFE [2FFFC]=00003412 [20000]=7856FFFF", "IP=1234 CODE=5678 F=FD5 SP=4");
    }

    private static void vectorsAreReadBehindThePushes() {
        Checks.step("CD 01", "STACK=0 SP=A F=0 [00004]=78563412 [00008]=BC9AF0DE",
                "IP=12 CODE=1000 SP=4 [00004]=1200001002F0");
    }

    private static void traps() {
        MachineCore x = machine("40 40 40", 1);
        x.set(13, TRAP);
        x.run(1);
        at("a code first", x, 0x1000, 0x11, TRAP);
        x.run(1);
        at("then 1", x, 0x5000, 1, 0);
        Checks.due("pushed FLAGS", x.byteAt(0x200FF), 0xF1);
        Checks.due("SP", x.get(4), 0xFA);
        x.run(1);
        at("no other one in it", x, 0x5000, 3, 0);
        Checks.due("steps", x.count(0), 3);
        MachineCore y = machine("40 40 40", 1);
        y.run(1);
        y.set(13, TRAP);
        y.run(1);
        at("TRAP was not set before the last step", y, 0x1000, 0x12, TRAP);
        y.set(13, 0);
        y.run(1);
        at("it was, now it is not", y, 0x5000, 1, 0);
        y.set(13, TRAP);
        y.write(0x50001, 0x40404040);
        y.run(1);
        at("the last one was an interrupt", y, 0x5000, 2, TRAP | 4);
        y.run(1);
        at("now it was a code", y, 0x5000, 1, 4);
        MachineCore z = machine("40 40 40", 1, 9);
        z.write(0x50009, 0x40404040);
        z.set(13, TRAP | INTERRUPT);
        z.line(9);
        z.run(1);
        at("the LINE before the first code", z, 0x5000, 9, 0);
        z.run(1);
        at("no 1 behind it", z, 0x5000, 10, 0);
    }

    private static void trapsAndCalledInterrupts() {
        MachineCore x = machine("CD 21", 1, 0x21);
        x.set(13, TRAP);
        x.run(1);
        at("called", x, 0x5000, 0x21, 0);
        x.run(1);
        at("1 behind a called one", x, 0x5000, 1, 0);
        Checks.due("pushed IP", x.byteAt(0x200F4), 0x21);
        MachineCore y = machine("F6 F1", 0, 1);
        y.set(13, TRAP);
        y.run(2);
        at("1 behind a division by 0", y, 0x5000, 1, 0);
    }

    private static void trapsAndSegments() {
        String[] giving = {"07", "0F", "17", "1F", "8E C0", "8E D8"};
        for (String code : giving) {
            MachineCore x = machine(code + "90 90", 1);
            x.set(13, TRAP);
            x.run(1);
            if (code.equals("0F")) {
                x.set(9, 0x1000);
            }
            x.run(1);
            Checks.due(code + " no 1 behind it", x.get(12), 0x11 + Checks.bytes(code).length);
            if (!code.equals("17")) {
                x.run(1);
                at(code + " 1 behind the next", x, 0x5000, 1, 0);
            }
        }
        MachineCore y = machine("C5 07 90", 1);
        y.set(13, TRAP);
        y.run(2);
        at("C5 is none of them", y, 0x5000, 1, 0);
    }

    private static void trapFirst() {
        MachineCore x = machine("90 90", 1, 9);
        x.set(13, TRAP | INTERRUPT);
        x.run(1);
        x.line(9);
        x.run(1);
        at("1 before the LINE", x, 0x5000, 1, 0);
        x.set(13, INTERRUPT);
        x.run(1);
        at("the LINE was kept", x, 0x5000, 9, 0);
        Checks.due("it came from 1", x.byteAt(0x200F4), 1);
    }

    private static void trapAndHalt() {
        MachineCore x = machine("F4 90", 1);
        x.set(13, TRAP);
        Checks.due("HALT and 1", x.run(2), MachineCore.DONE);
        at("1 behind HALT", x, 0x5000, 1, 0);
        x.write(0x50001, 0xCF000000);
        Checks.due("back", x.run(2), MachineCore.DONE);
        at("behind HALT", x, 0x1000, 0x12, TRAP);
        MachineCore y = machine("F4 90", 1);
        y.run(1);
        y.set(13, TRAP);
        Checks.due("TRAP behind HALT does nothing", y.run(1), MachineCore.HALTED);
        MachineCore z = machine("40 FE D0", 1);
        z.set(13, TRAP);
        z.run(1);
        Checks.due("1 before a NO CODE", z.run(1), MachineCore.DONE);
        at("1 before a NO CODE", z, 0x5000, 1, 0);
    }

    private static void trapByFlagsPopped() {
        MachineCore x = machine("9D 90 90", 1);
        Checks.put(x, 0x20100, "0001");
        x.run(2);
        at("a code behind 9D", x, 0x1000, 0x12, TRAP);
        x.run(1);
        at("then 1", x, 0x5000, 1, 0);
        MachineCore y = machine("9D 90 90", 1);
        y.set(13, TRAP);
        y.run(1);
        at("TRAP popped away", y, 0x1000, 0x11, 0);
        y.run(1);
        at("1 all the same", y, 0x5000, 1, 0);
    }
}

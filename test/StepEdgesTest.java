/** The boundary cases of INTERRUPT, A STEP (TRAP, the LINE, HALT, steps that give a segment), run and count. */
public final class StepEdgesTest {
    private static final int TRAP = 256;
    private static final int INTERRUPT = 512;
    private static final String[] GIVING = {"07", "0F", "17", "1F", "8E C0", "8E C8", "8E D0", "8E D8", "8E E0", "8E F8",
        "26 07", "F3 8E 06 00 00"};
    private static final String[] NOT_GIVING = {"06", "0E", "16", "1E", "58", "9D", "8C C0", "8F C0", "C4 07", "C5 07",
        "27", "2F", "37", "3F", "8D 07", "90", "FA FB"};

    public static void main(String[] args) {
        newObjects();
        numbersOfInterrupts();
        whatAnInterruptPushes();
        interruptsWithTheStackOverTheTable();
        theLineHoldsOneNumber();
        theLineIsEmptyThen();
        theLineWaitsForInterrupt();
        theLineBehindSegments();
        theLineIsTakenByNoOtherStep();
        trapBeforeTheLastStep();
        trapBehindSegments();
        trapBehindInterrupts();
        trapBeforeTheLine();
        trapBetweenRuns();
        haltHolds();
        onlyInterruptsGoOn();
        stepsThatAreAsked();
        noCodeIsNoStep();
        runsOfNone();
        repetitionsAndSteps();
        Checks.finish();
    }

    /** Interrupt n goes to CODE 5000, IP n; what stands there is 90 and more of it. */
    private static MachineCore machine(String code, int flags) {
        MachineCore x = Checks.machine(code);
        for (int n = 0; n < 12; n++) {
            x.write(4 * n, n << 24 | 0x50);
        }
        for (int i = 0; i < 32; i += 4) {
            x.write(0x50000 + i, 0x90909090);
        }
        x.set(13, flags);
        return x;
    }

    private static void at(String what, MachineCore x, int segment, int ip, int flags) {
        Checks.due(what + " CODE", x.get(9), segment);
        Checks.due(what + " IP", x.get(12), ip);
        Checks.due(what + " FLAGS", x.get(13), flags);
    }

    private static void newObjects() {
        MachineCore x = new MachineCore();
        for (int r = 0; r < 14; r++) {
            Checks.due("new get " + r, x.get(r), 0);
        }
        for (int k = 0; k < 4; k++) {
            Checks.due("new count " + k, x.count(k), 0);
        }
        Checks.due("new run 0", x.run(0), MachineCore.DONE);
        Checks.due("new port", x.port(0) + x.port(255), 0);
        Checks.due("new byteAt", x.byteAt(0) + x.byteAt((1 << 20) - 1), 0);
        x.set(13, INTERRUPT | TRAP);
        Checks.due("neither the LINE nor TRAP before the first step", x.run(1), MachineCore.DONE);
        Checks.due("00 00 was done", x.get(12), 2);
        MachineCore two = new MachineCore();
        x.set(0, 5);
        x.setPort(1, 1);
        x.write(8, 8);
        Checks.due("another object has its own registers", two.get(0), 0);
        Checks.due("and ports", two.port(1), 0);
        Checks.due("and memory", two.byteAt(11), 0);
    }

    /** 0 and 255, by CD and by the LINE; the words at 4 n and 4 n + 2 of segment 0. */
    private static void numbersOfInterrupts() {
        int[] numbers = {0, 1, 63, 64, 254, 255};
        for (int n : numbers) {
            String table = String.format("[%05X]=78563412", 4 * n);
            Checks.step(String.format("CD%02X", n), table, "IP=5678 CODE=1234 SP=FA [200FA]=1200001002F0");
            MachineCore x = Checks.machine("90");
            x.write(4 * n, 0x78563412);
            x.set(13, INTERRUPT);
            x.line(n);
            x.run(1);
            at("line " + n, x, 0x1234, 0x5678, 0);
            Checks.due("line " + n + " pushed IP", x.byteAt(0x200FA) + 256 * x.byteAt(0x200FB), 0x10);
            Checks.due("line " + n + " pushed CODE", x.byteAt(0x200FC) + 256 * x.byteAt(0x200FD), 0x1000);
            Checks.due("line " + n + " pushed FLAGS", x.byteAt(0x200FE) + 256 * x.byteAt(0x200FF), 0xF202);
        }
        Checks.step("CC", "[0000C]=78563412", "IP=5678 CODE=1234 SP=FA [200FA]=1100001002F0");
        Checks.step("CE", "[00010]=78563412 F=800", "IP=5678 CODE=1234 SP=FA [200FA]=1100001002F8");
        Checks.step("CE", "[00010]=78563412 F=7D5", "");
        Checks.step("CD 05", "", "IP=0 CODE=0 SP=FA [200FA]=1200001002F0");
    }

    private static void whatAnInterruptPushes() {
        Checks.step("CD 05", "F=FD5", "F=CD5 IP=0 CODE=0 SP=FA [200FA]=12000010D7FF");
        Checks.step("CD 05", "F=300", "F=0 IP=0 CODE=0 SP=FA [200FA]=1200001002F3");
        Checks.step("26 F3 CD 05", "", "IP=0 CODE=0 SP=FA [200FA]=1400001002F0");
        Checks.step("D4 00", "F=FD5 A=99", "F=CD5 IP=0 CODE=0 SP=FA [200FA]=12000010D7FF");
        Checks.step("F7 36 00 00", "F=0", "IP=0 CODE=0 SP=FA [200FA]=1400001002F0");
        Checks.step("CD 05", "SP=6", "SP=0 IP=0 CODE=0 [20000]=1200001002F0");
        Checks.step("CD 05", "SP=4", "SP=FFFE IP=0 CODE=0 [2FFFE]=1200 [20000]=001002F0");
        Checks.step("CD 05", "SP=1", "SP=FFFB IP=0 CODE=0 [2FFFB]=1200001002 [20000]=F0");
    }

    private static void interruptsWithTheStackOverTheTable() {
        Checks.step("CD 05", "STACK=0 SP=1A F=0", "SP=14 IP=12 CODE=1000 [00014]=1200001002F0");
        Checks.step("CD 05", "STACK=0 SP=18 F=0 [00014]=78563412", "SP=12 IP=1000 CODE=F002");
    }

    /** A number below 0 empties it, another one takes its place. */
    private static void theLineHoldsOneNumber() {
        MachineCore x = machine("90 90 90", INTERRUPT);
        x.line(9);
        x.line(0);
        x.run(1);
        at("0 is a number", x, 0x5000, 0, 0);
        MachineCore y = machine("90 90 90", INTERRUPT);
        y.line(9);
        y.line(-1);
        y.run(1);
        at("-1 empties it", y, 0x1000, 0x11, INTERRUPT);
        y.line(-1);
        y.line(8);
        y.run(1);
        at("filled again", y, 0x5000, 8, 0);
    }

    private static void theLineIsEmptyThen() {
        MachineCore x = machine("90 90 90", INTERRUPT);
        x.line(9);
        x.run(1);
        at("taken", x, 0x5000, 9, 0);
        x.set(13, INTERRUPT);
        x.run(2);
        at("not taken again", x, 0x5000, 11, INTERRUPT);
        x.line(9);
        x.run(1);
        at("the same number again", x, 0x5000, 9, 0);
        x.line(8);
        x.set(13, INTERRUPT);
        x.run(1);
        at("another one at once behind it", x, 0x5000, 8, 0);
        Checks.due("steps", x.count(0), 5);
    }

    private static void theLineWaitsForInterrupt() {
        MachineCore x = machine("90 90 FB 90", 0xDD5 & ~TRAP);
        x.line(9);
        Checks.due("three codes", x.run(3), 0);
        at("INTERRUPT was not set before", x, 0x1000, 0x13, 0xED5);
        x.run(1);
        at("now it was", x, 0x5000, 9, 0xCD5);
        MachineCore y = machine("FA 90", INTERRUPT);
        y.run(1);
        y.line(9);
        y.run(1);
        at("FA was before", y, 0x1000, 0x12, 0);
    }

    private static void theLineBehindSegments() {
        for (String code : GIVING) {
            MachineCore x = machine(code, INTERRUPT);
            x.run(1);
            x.line(9);
            x.set(9, 0x5000);
            x.set(12, 16);
            x.run(1);
            at(code + " gave a segment", x, 0x5000, 17, INTERRUPT);
            x.run(1);
            at(code + " is not the last one any more", x, 0x5000, 9, 0);
        }
        for (String code : NOT_GIVING) {
            MachineCore x = machine(code, INTERRUPT);
            x.run(code.equals("FA FB") ? 2 : 1);
            x.set(13, INTERRUPT);
            x.line(9);
            x.run(1);
            at(code + " gave none", x, 0x5000, 9, 0);
        }
        MachineCore y = machine("07 07 90 90", INTERRUPT);
        y.run(1);
        y.line(9);
        y.run(2);
        at("two of them", y, 0x1000, 0x13, INTERRUPT);
        y.run(1);
        at("then the LINE", y, 0x5000, 9, 0);
    }

    /** An INTERRUPT that a code calls leaves the LINE as it is. */
    private static void theLineIsTakenByNoOtherStep() {
        MachineCore x = machine("CD 08", 0);
        x.line(9);
        x.run(1);
        at("called", x, 0x5000, 8, 0);
        x.set(13, INTERRUPT);
        x.run(1);
        at("the LINE held its number", x, 0x5000, 9, 0);
        MachineCore y = machine("90", INTERRUPT);
        y.line(9);
        y.run(0);
        at("a run of none takes nothing", y, 0x1000, 0x10, INTERRUPT);
        y.run(1);
        at("the LINE before a code", y, 0x5000, 9, 0);
    }

    private static void trapBeforeTheLastStep() {
        MachineCore x = machine("90 90 90", 0);
        x.run(1);
        x.set(13, TRAP);
        x.run(1);
        at("not before the last step: a code", x, 0x1000, 0x12, TRAP);
        x.run(1);
        at("before the last step: 1", x, 0x5000, 1, 0);
        MachineCore y = machine("90 90 90", TRAP);
        y.run(1);
        y.set(13, 0);
        y.run(1);
        at("it was before, though it is not now", y, 0x5000, 1, 0);
        Checks.due("FLAGS pushed are those of now", y.byteAt(0x200FF), 0xF0);
        MachineCore z = machine("9D 90 90", TRAP);
        z.run(2);
        at("9D took it away, 1 all the same", z, 0x5000, 1, 0);
        MachineCore w = machine("9D 90 90", 0);
        w.write(0x20100, 0x00010000);
        w.run(1);
        at("9D set it", w, 0x1000, 0x11, TRAP);
        w.run(1);
        at("a code first", w, 0x1000, 0x12, TRAP);
        w.run(1);
        at("then 1", w, 0x5000, 1, 0);
    }

    private static void trapBehindSegments() {
        for (String code : GIVING) {
            MachineCore x = machine(code, TRAP);
            x.run(1);
            x.set(9, 0x5000);
            x.set(12, 16);
            x.run(1);
            at(code + " gave a segment", x, 0x5000, 17, TRAP);
            x.run(1);
            at(code + " is not the last one any more", x, 0x5000, 1, 0);
        }
        for (String code : NOT_GIVING) {
            MachineCore x = machine(code, TRAP);
            x.run(1);
            x.run(1);
            Checks.due(code + " gave none CODE", x.get(9), 0x5000);
            Checks.due(code + " gave none IP", x.get(12), 1);
        }
        MachineCore y = machine("07 90 90", TRAP);
        y.run(1);
        y.set(13, 0);
        y.run(2);
        at("TRAP before 07 alone gives none", y, 0x1000, 0x13, 0);
    }

    /** Behind one of the two interrupts none by TRAP; behind CC, CD, CE and others there is one. */
    private static void trapBehindInterrupts() {
        MachineCore x = machine("90 90", TRAP);
        x.run(2);
        at("1", x, 0x5000, 1, 0);
        x.set(13, TRAP);
        x.run(1);
        at("a code behind 1", x, 0x5000, 2, TRAP);
        x.run(1);
        at("1 again", x, 0x5000, 1, 0);
        MachineCore y = machine("90 90", TRAP | INTERRUPT);
        y.line(9);
        y.run(1);
        at("the LINE", y, 0x5000, 9, 0);
        y.set(13, TRAP);
        y.run(1);
        at("a code behind the LINE's", y, 0x5000, 10, TRAP);
        String[] calling = {"CC", "CD 03", "CE", "D4 00", "F6 37", "F7 3F"};
        int[] numbers = {3, 3, 4, 0, 0, 0};
        for (int i = 0; i < calling.length; i++) {
            MachineCore z = machine(calling[i], TRAP | 0x800);
            z.set(3, 0x100);
            z.run(1);
            at(calling[i], z, 0x5000, numbers[i], 0x800);
            z.run(1);
            at("1 behind " + calling[i], z, 0x5000, 1, 0x800);
            Checks.due("it came from the other's first code", z.byteAt(0x200F4), numbers[i]);
        }
        MachineCore back = machine("90 90 90", TRAP);
        back.write(0x50001, 0xCF000000);
        back.run(3);
        at("CF behind 1", back, 0x1000, 0x11, TRAP);
        back.run(1);
        at("TRAP was not set before CF", back, 0x1000, 0x12, TRAP);
        back.run(1);
        at("but before the code", back, 0x5000, 1, 0);
    }

    private static void trapBeforeTheLine() {
        MachineCore x = machine("90 90", TRAP | INTERRUPT);
        x.run(1);
        x.line(9);
        x.run(1);
        at("1 comes first", x, 0x5000, 1, 0);
        x.run(1);
        at("INTERRUPT is not set then", x, 0x5000, 2, 0);
        x.set(13, INTERRUPT);
        x.run(1);
        at("the LINE held its number", x, 0x5000, 9, 0);
        MachineCore y = machine("07 90 90", TRAP | INTERRUPT);
        y.run(1);
        y.line(9);
        y.run(1);
        at("behind 07 neither of them", y, 0x1000, 0x12, TRAP | INTERRUPT);
    }

    /** What the last step was is kept from run to run, through set and refused calls. */
    private static void trapBetweenRuns() {
        MachineCore x = machine("90 90", TRAP);
        x.run(1);
        x.run(0);
        x.set(9, 0x5000);
        x.set(12, 0x14);
        x.run(1);
        at("1 from the place that was set", x, 0x5000, 1, 0);
        Checks.due("IP pushed", x.byteAt(0x200FA), 0x14);
        Checks.due("CODE pushed", x.byteAt(0x200FD), 0x50);
    }

    private static void haltHolds() {
        MachineCore x = machine("90 F4 90", 0);
        Checks.due("up to HALT itself", x.run(2), MachineCore.DONE);
        Checks.due("none more", x.run(0), MachineCore.DONE);
        Checks.due("held", x.run(1), MachineCore.HALTED);
        Checks.due("held for all", x.run(500), MachineCore.HALTED);
        Checks.due("steps", x.count(0), 2);
        at("behind HALT", x, 0x1000, 0x12, 0);
        x.set(12, 0x10);
        x.set(9, 0x5000);
        x.set(13, INTERRUPT | TRAP);
        Checks.due("registers do not end it", x.run(1), MachineCore.HALTED);
        x.write(0x10012, 0x90909090);
        Checks.due("nor does memory", x.run(1), MachineCore.HALTED);
        MachineCore y = machine("90 F4 90", 0);
        Checks.due("one more than there are", y.run(3), MachineCore.HALTED);
        Checks.due("steps", y.count(0), 2);
        MachineCore z = machine("F3 26 F4", 0);
        Checks.due("HALT with prefixes", z.run(2), MachineCore.HALTED);
        Checks.due("IP", z.get(12), 0x13);
    }

    private static void onlyInterruptsGoOn() {
        MachineCore x = machine("F4 90 90", 0);
        x.run(1);
        x.line(9);
        Checks.due("INTERRUPT is not set", x.run(1), MachineCore.HALTED);
        x.set(13, INTERRUPT);
        Checks.due("it is set", x.run(1), MachineCore.DONE);
        at("the LINE's", x, 0x5000, 9, 0);
        Checks.due("IP behind HALT is pushed", x.byteAt(0x200FA), 0x11);
        x.write(0x50009, 0xCF000000);
        Checks.due("back and on", x.run(2), MachineCore.DONE);
        at("behind the next code", x, 0x1000, 0x12, INTERRUPT);
        MachineCore y = machine("F4 90", TRAP);
        Checks.due("TRAP was set before HALT", y.run(2), MachineCore.DONE);
        at("1", y, 0x5000, 1, 0);
        MachineCore z = machine("FB F4", 0);
        z.run(2);
        z.line(0);
        z.run(1);
        at("0 from HALT", z, 0x5000, 0, 0);
        Checks.due("codes there", z.run(3), MachineCore.DONE);
        z.write(0x50004, 0xF4909090);
        z.set(12, 4);
        Checks.due("HALT again", z.run(2), MachineCore.HALTED);
        MachineCore w = machine("90 F4", INTERRUPT);
        w.run(1);
        w.line(9);
        w.run(1);
        at("the LINE before a HALT", w, 0x5000, 9, 0);
        Checks.due("that HALT was not done", w.run(1), MachineCore.DONE);
    }

    private static void stepsThatAreAsked() {
        int[] numbers = {0, 1, 2, 63, 64, 255, 256, 499, 500};
        for (int n : numbers) {
            MachineCore x = Checks.machine("EB FE");
            Checks.due("run " + n, x.run(n), MachineCore.DONE);
            Checks.due("run " + n + " steps", x.count(0), n);
            Checks.due("run " + n + " once more", x.run(n), MachineCore.DONE);
            Checks.due("run " + n + " twice", x.count(0), 2 * n);
        }
        for (int n = 0; n < 8; n++) {
            MachineCore x = Checks.machine("40 40 40 40 FE D0");
            Checks.due("five with a NO CODE, asked " + n, x.run(n), n < 5 ? MachineCore.DONE : MachineCore.NO_CODE);
            Checks.due("steps", x.count(0), Math.min(n, 4));
            Checks.due("A", x.get(0), Math.min(n, 4));
            MachineCore y = Checks.machine("40 40 40 F4");
            Checks.due("four with HALT, asked " + n, y.run(n), n < 5 ? MachineCore.DONE : MachineCore.HALTED);
            Checks.due("steps", y.count(0), Math.min(n, 4));
        }
    }

    /** What the last step was stays behind a NO CODE; interrupts come before it. */
    private static void noCodeIsNoStep() {
        MachineCore x = machine("07 FE D0", INTERRUPT);
        x.run(1);
        x.line(9);
        Checks.due("NO CODE behind 07", x.run(5), MachineCore.NO_CODE);
        Checks.due("and again", x.run(5), MachineCore.NO_CODE);
        x.write(0x10010, 0x07909090);
        x.run(1);
        at("a code", x, 0x1000, 0x12, INTERRUPT);
        x.run(1);
        at("the LINE", x, 0x5000, 9, 0);
        MachineCore y = machine("FE D0", INTERRUPT);
        Checks.due("NO CODE", y.run(1), MachineCore.NO_CODE);
        y.line(9);
        Checks.due("the LINE goes before it", y.run(1), MachineCore.DONE);
        at("from the NO CODE", y, 0x5000, 9, 0);
        Checks.due("its IP is pushed", y.byteAt(0x200FA), 0x10);
        MachineCore z = machine("90 FE D0", TRAP);
        Checks.due("1 goes before it", z.run(2), MachineCore.DONE);
        at("from the NO CODE", z, 0x5000, 1, 0);
        MachineCore w = machine("FE D0", TRAP);
        Checks.due("it is no last step", w.run(1), MachineCore.NO_CODE);
        Checks.due("it is no last step", w.run(1), MachineCore.NO_CODE);
        w.write(0x10010, 0x90909090);
        w.run(1);
        at("a code", w, 0x1000, 0x11, TRAP);
    }

    private static void runsOfNone() {
        MachineCore x = machine("FE D0", INTERRUPT);
        Checks.due("before a NO CODE", x.run(0), MachineCore.DONE);
        x.line(9);
        Checks.due("with the LINE", x.run(0), MachineCore.DONE);
        at("nothing was done", x, 0x1000, 0x10, INTERRUPT);
        Checks.due("no step", x.count(0), 0);
    }

    /** Repetitions by REPEAT alone; a step is one, however many there were; interrupts are steps. */
    private static void repetitionsAndSteps() {
        MachineCore x = machine("AA F3 AA F3 AA F2 AE F3 A7", INTERRUPT);
        x.set(1, 66);
        x.set(7, 0x200);
        x.run(1);
        Checks.due("without REPEAT", x.count(3), 0);
        x.run(1);
        Checks.due("64 of 66", x.count(3), 64);
        x.line(9);
        x.run(1);
        at("between two parts", x, 0x5000, 9, 0);
        Checks.due("IP of its prefix is pushed", x.byteAt(0x200FA), 0x11);
        Checks.due("steps", x.count(0), 3);
        x.write(0x50009, 0xCF000000);
        x.run(2);
        Checks.due("all of them", x.count(3), 66);
        Checks.due("steps", x.count(0), 5);
        x.run(1);
        Checks.due("none with C 0", x.count(3), 66);
        x.set(1, 9);
        x.set(0, 0x77);
        x.run(1);
        Checks.due("nine that did not end it", x.count(3), 75);
        x.set(1, 9);
        x.write(0x30000, 0x01020304);
        x.set(6, 0);
        x.run(1);
        Checks.due("one that ended it", x.count(3), 76);
        Checks.due("C then", x.get(1), 8);
        Checks.due("steps", x.count(0), 8);
    }
}

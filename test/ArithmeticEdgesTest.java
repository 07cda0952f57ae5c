/**
 * The boundary cases of ARITHMETIC, each with its answer written out: FLAGS, operands, answers, sums and differences,
 * the other operations, shifts, products, quotients, adjustments, conditions. FLAGS are 1 CARRY, 4 PARITY, 10 HALF,
 * 40 ZERO, 80 SIGN, 100 TRAP, 200 INTERRUPT, 400 DIRECTION, 800 OVERFLOW.
 */
public final class ArithmeticEdgesTest {
    public static void main(String[] args) {
        keptFlags();
        lowestBitsCount();
        byAnAnswer();
        carryOfSums();
        halfOfSums();
        overflowOfSums();
        carryOfDifferences();
        halfOfDifferences();
        overflowOfDifferences();
        withTheCarryThereWas();
        bitOperations();
        notKept();
        byOne();
        fromZero();
        turned();
        shiftsByNone();
        shiftsAround();
        shiftsThroughCarry();
        shiftsToTheLeft();
        shiftsToTheRight();
        shiftsManyTimes();
        products();
        signedProducts();
        quotients();
        signedQuotients();
        noQuotients();
        decimal();
        unpacked();
        byBase();
        conditions();
        Checks.finish();
    }

    /** Other bits of what comes to FLAGS are not kept. */
    private static void keptFlags() {
        for (int bit = 0; bit < 16; bit++) {
            int due = 0xFD5 & 1 << bit;
            Checks.step("9D", String.format("[20100]=%02X%02X", 1 << bit & 255, 1 << bit >> 8),
                    "SP=102 F=" + Integer.toHexString(due));
            Checks.step("CF", String.format("[20100]=12000010%02X%02X", 1 << bit & 255, 1 << bit >> 8),
                    "SP=106 IP=12 F=" + Integer.toHexString(due));
            Checks.step("9E", "F=F00 A=" + Integer.toHexString(1 << bit),
                    "F=" + Integer.toHexString(0xF00 | 0xD5 & 1 << bit >> 8));
        }
        Checks.step("9E", "F=FD5 A=2A00", "F=F00");
        Checks.step("9E", "F=0 A=FFFF", "F=D5");
        Checks.step("9F", "F=FD5 A=0", "A=D700");
        Checks.step("9F", "F=F00 A=FFFF", "A=2FF");
    }

    /** Of a number that comes in only its lowest bits count. */
    private static void lowestBitsCount() {
        Checks.step("00 C8", "A=FF01 C=FF01", "A=FF02 F=0");
        Checks.step("04 01", "A=FF01", "A=FF02 F=0");
        Checks.step("0C 02", "A=FF01", "A=FF03 F=4");
        Checks.step("14 01", "A=FF01 F=1", "A=FF03 F=4");
        Checks.step("1C 01", "A=8102 F=1", "A=8100 F=44");
        Checks.step("24 FF", "A=8101", "A=8101 F=0");
        Checks.step("2C 01", "A=8102", "A=8101 F=0");
        Checks.step("34 01", "A=8101", "A=8100 F=44");
        Checks.step("3C 01", "A=8101", "F=44");
        Checks.step("A8 FF", "A=8101", "F=0");
        Checks.step("80 3C 01", "[30000]=0181", "F=44");
        Checks.step("F6 1C", "[30000]=0181", "[30000]=FF81 F=95");
        Checks.step("30 C8", "A=FF01 C=1", "A=FF00 F=44");
        Checks.step("F6 E1", "A=FF02 C=FF03", "A=6 F=0");
        Checks.step("D2 E0", "A=FF01 C=FF00 F=1", "");
        Checks.step("80 C0 FF", "A=7701", "A=7700 F=55");
        Checks.step("D5 01", "A=1FF", "A=0 F=44");
    }

    private static void byAnAnswer() {
        Checks.step("24 FF", "A=0", "F=44");
        Checks.step("24 FF", "A=1", "F=0");
        Checks.step("24 FF", "A=3", "F=4");
        Checks.step("24 FF", "A=7F", "F=0");
        Checks.step("24 FF", "A=80", "F=80");
        Checks.step("24 FF", "A=81", "F=84");
        Checks.step("24 FF", "A=FF", "F=84");
        Checks.step("24 FF", "A=FF00", "F=44");
        Checks.step("25 FF FF", "A=0", "F=44");
        Checks.step("25 FF FF", "A=80", "F=0");
        Checks.step("25 FF FF", "A=100", "F=4");
        Checks.step("25 FF FF", "A=101", "F=0");
        Checks.step("25 FF FF", "A=7FFF", "F=4");
        Checks.step("25 FF FF", "A=8000", "F=84");
        Checks.step("25 FF FF", "A=FF01", "F=80");
    }

    /** CARRY when the sum is 2^8 (2^16) or more. */
    private static void carryOfSums() {
        Checks.step("04 01", "A=FE", "A=FF F=84");
        Checks.step("04 01", "A=FF", "A=0 F=55");
        Checks.step("04 02", "A=FF", "A=1 F=11");
        Checks.step("04 FF", "A=FF", "A=FE F=91");
        Checks.step("05 01 00", "A=FFFE", "A=FFFF F=84");
        Checks.step("05 01 00", "A=FFFF", "A=0 F=55");
        Checks.step("05 02 00", "A=FFFF", "A=1 F=11");
        Checks.step("05 FF FF", "A=FFFF", "A=FFFE F=91");
        Checks.step("05 01 00", "A=FF", "A=100 F=14");
        Checks.step("14 00", "A=FF F=0", "A=FF F=84");
        Checks.step("14 00", "A=FF F=1", "A=0 F=55");
        Checks.step("14 FF", "A=FF F=1", "A=FF F=95");
        Checks.step("15 FF FF", "A=FFFF F=1", "A=FFFF F=95");
    }

    /** HALF when the sum of the lowest four bits, and c, is 16 or more. */
    private static void halfOfSums() {
        Checks.step("04 07", "A=8", "A=F F=4");
        Checks.step("04 08", "A=8", "A=10 F=10");
        Checks.step("04 F0", "A=F0", "A=E0 F=81");
        Checks.step("05 08 00", "A=7", "A=F F=4");
        Checks.step("05 09 00", "A=7", "A=10 F=10");
        Checks.step("14 07", "A=7 F=1", "A=F F=4");
        Checks.step("14 07", "A=8 F=1", "A=10 F=10");
        Checks.step("14 0F", "A=0 F=1", "A=10 F=10");
        Checks.step("14 0F", "A=F F=1", "A=1F F=10");
    }

    /** OVERFLOW when the signed operands' sum, with c, is no signed operand. */
    private static void overflowOfSums() {
        Checks.step("04 01", "A=7E", "A=7F F=0");
        Checks.step("04 01", "A=7F", "A=80 F=890");
        Checks.step("04 7F", "A=7F", "A=FE F=890");
        Checks.step("04 FF", "A=81", "A=80 F=91");
        Checks.step("04 FF", "A=80", "A=7F F=801");
        Checks.step("04 80", "A=80", "A=0 F=845");
        Checks.step("04 80", "A=7F", "A=FF F=84");
        Checks.step("14 00", "A=7F F=1", "A=80 F=890");
        Checks.step("14 7F", "A=80 F=1", "A=0 F=55");
        Checks.step("14 FF", "A=80 F=1", "A=80 F=91");
        Checks.step("05 01 00", "A=7FFE", "A=7FFF F=4");
        Checks.step("05 01 00", "A=7FFF", "A=8000 F=894");
        Checks.step("05 FF FF", "A=8001", "A=8000 F=95");
        Checks.step("05 FF FF", "A=8000", "A=7FFF F=805");
        Checks.step("05 01 00", "A=7F", "A=80 F=10");
        Checks.step("15 00 80", "A=8000 F=1", "A=1 F=801");
        Checks.step("15 FF 7F", "A=0 F=1", "A=8000 F=894");
    }

    /** CARRY when the difference is below 0. */
    private static void carryOfDifferences() {
        Checks.step("2C 01", "A=1", "A=0 F=44");
        Checks.step("2C 01", "A=0", "A=FF F=95");
        Checks.step("2C FF", "A=FF", "A=0 F=44");
        Checks.step("2C FF", "A=FE", "A=FF F=95");
        Checks.step("2D 01 00", "A=1", "A=0 F=44");
        Checks.step("2D 01 00", "A=0", "A=FFFF F=95");
        Checks.step("2D FF FF", "A=FFFE", "A=FFFF F=95");
        Checks.step("1C 00", "A=0 F=1", "A=FF F=95");
        Checks.step("1C 00", "A=0 F=0", "F=44");
        Checks.step("1C FF", "A=FF F=1", "A=FF F=95");
        Checks.step("1C FE", "A=FF F=1", "A=0 F=44");
        Checks.step("1D FF FF", "A=0 F=1", "A=0 F=55");
    }

    /** HALF when the difference of the lowest four bits, and c, is below 0. */
    private static void halfOfDifferences() {
        Checks.step("2C 05", "A=15", "A=10 F=0");
        Checks.step("2C 06", "A=15", "A=F F=14");
        Checks.step("2C 10", "A=5", "A=F5 F=85");
        Checks.step("1C 05", "A=15 F=1", "A=F F=14");
        Checks.step("1C 04", "A=15 F=1", "A=10 F=0");
        Checks.step("1C 0F", "A=1F F=1", "A=F F=14");
        Checks.step("2D 01 00", "A=100", "A=FF F=14");
    }

    private static void overflowOfDifferences() {
        Checks.step("2C 01", "A=81", "A=80 F=80");
        Checks.step("2C 01", "A=80", "A=7F F=810");
        Checks.step("2C FF", "A=7E", "A=7F F=11");
        Checks.step("2C FF", "A=7F", "A=80 F=881");
        Checks.step("2C 80", "A=FF", "A=7F F=0");
        Checks.step("2C 80", "A=0", "A=80 F=881");
        Checks.step("2C 80", "A=80", "A=0 F=44");
        Checks.step("1C 7F", "A=FF F=1", "A=7F F=810");
        Checks.step("1C 80", "A=0 F=1", "A=7F F=11");
        Checks.step("2D 01 00", "A=8001", "A=8000 F=84");
        Checks.step("2D 01 00", "A=8000", "A=7FFF F=814");
        Checks.step("2D FF FF", "A=7FFF", "A=8000 F=885");
        Checks.step("2D 00 80", "A=0", "A=8000 F=885");
        Checks.step("1D 00 80", "A=FFFF F=1", "A=7FFE F=0");
    }

    /** 2 and 3 take the CARRY there was, 0 and 5 do not. */
    private static void withTheCarryThereWas() {
        Checks.step("14 01", "A=1 F=0", "A=2 F=0");
        Checks.step("14 01", "A=1 F=1", "A=3 F=4");
        Checks.step("04 01", "A=1 F=1", "A=2 F=0");
        Checks.step("1C 01", "A=5 F=0", "A=4 F=0");
        Checks.step("1C 01", "A=5 F=1", "A=3 F=4");
        Checks.step("2C 01", "A=5 F=1", "A=4 F=0");
        Checks.step("3C 05", "A=5 F=1", "F=44");
    }

    /** By 1, 4, 6 and 8 CARRY, HALF and OVERFLOW are not set; TRAP, INTERRUPT and DIRECTION stay by all. */
    private static void bitOperations() {
        Checks.step("0C 00", "A=0 F=FD5", "F=744");
        Checks.step("24 00", "A=FF F=FD5", "A=0 F=744");
        Checks.step("34 FF", "A=FF F=FD5", "A=0 F=744");
        Checks.step("A8 00", "A=FF F=FD5", "F=744");
        Checks.step("0C 80", "A=7F F=811", "A=FF F=84");
        Checks.step("34 80", "A=7F F=811", "A=FF F=84");
        Checks.step("34 80", "A=FF F=811", "A=7F F=0");
        Checks.step("0D 00 FF", "A=FF", "A=FFFF F=84");
        Checks.step("25 00 FF", "A=FF", "A=0 F=44");
        Checks.step("35 00 80", "A=8001", "A=1 F=0");
        Checks.step("04 00", "A=0 F=FD5", "F=744");
        Checks.step("2C 00", "A=0 F=FD5", "F=744");
        Checks.step("40", "A=0 F=FD5", "A=1 F=701");
    }

    /** 7 and 8 answer a: nothing but FLAGS changes. */
    private static void notKept() {
        Checks.step("38 C8", "A=1 C=2", "F=95");
        Checks.step("3A C8", "A=201 C=102", "F=0");
        Checks.step("3A C8", "A=2 C=1", "F=95");
        Checks.step("39 07", "A=1 [30000]=0000", "F=95 [30000]=0000");
        Checks.step("3D 00 80", "A=0", "F=885");
        Checks.step("3C 80", "A=0", "F=881");
        Checks.step("83 F8 80", "A=FF80", "F=44");
        Checks.step("84 C0", "A=80", "F=80");
        Checks.step("85 C0", "A=80", "F=0");
        Checks.step("84 E0", "A=8080", "F=80");
        Checks.step("A9 FF FF", "A=0 F=811", "F=44");
        Checks.step("F6 C4 80", "A=80 F=811", "F=44");
    }

    /** 9 and 10 leave CARRY, be it set or not. */
    private static void byOne() {
        Checks.step("FE C0", "A=FF F=0", "A=0 F=54");
        Checks.step("FE C0", "A=FF F=1", "A=0 F=55");
        Checks.step("FE C0", "A=7F F=1", "A=80 F=891");
        Checks.step("FE C0", "A=FE F=0", "A=FF F=84");
        Checks.step("FE C8", "A=0 F=0", "A=FF F=94");
        Checks.step("FE C8", "A=0 F=1", "A=FF F=95");
        Checks.step("FE C8", "A=80 F=0", "A=7F F=810");
        Checks.step("FE C8", "A=1 F=0", "A=0 F=44");
        Checks.step("40", "A=FFFF F=0", "A=0 F=54");
        Checks.step("40", "A=7FFF F=1", "A=8000 F=895");
        Checks.step("40", "A=FF F=0", "A=100 F=14");
        Checks.step("48", "A=0 F=1", "A=FFFF F=95");
        Checks.step("48", "A=8000 F=0", "A=7FFF F=814");
        Checks.step("48", "A=1 F=1", "A=0 F=45");
        Checks.step("48", "A=100 F=0", "A=FF F=14");
    }

    private static void fromZero() {
        Checks.step("F6 D8", "A=0 F=FD5", "F=744");
        Checks.step("F6 D8", "A=1", "A=FF F=95");
        Checks.step("F6 D8", "A=FF", "A=1 F=11");
        Checks.step("F6 D8", "A=10", "A=F0 F=85");
        Checks.step("F6 D8", "A=7F", "A=81 F=95");
        Checks.step("F6 D8", "A=80", "A=80 F=881");
        Checks.step("F7 D8", "A=0", "F=44");
        Checks.step("F7 D8", "A=80", "A=FF80 F=81");
        Checks.step("F7 D8", "A=7FFF", "A=8001 F=91");
        Checks.step("F7 D8", "A=8000", "A=8000 F=885");
        Checks.step("F7 D8", "A=FFFF", "A=1 F=11");
    }

    /** 12 leaves all flags. */
    private static void turned() {
        Checks.step("F6 D0", "A=0 F=FD5", "A=FF");
        Checks.step("F6 D0", "A=FF F=0", "A=0");
        Checks.step("F7 D0", "A=0 F=0", "A=FFFF");
        Checks.step("F7 D0", "A=FFFF F=FD5", "A=0");
        Checks.step("F6 D4", "A=FF", "A=FFFF");
    }

    /** None: nothing changes, not even FLAGS; to memory it is written all the same. */
    private static void shiftsByNone() {
        for (int kind = 0; kind < 8; kind++) {
            String m = String.format("%02X", 0xC0 + 8 * kind);
            String memory = String.format("%02X", 7 + 8 * kind);
            Checks.step("D2" + m, "A=81 C=FF00 F=FD5", "");
            Checks.step("D2" + m, "A=81 C=0 F=0", "");
            Checks.step("D3" + m, "A=8001 C=FF00 F=FD5", "");
            Checks.step("D3" + m, "A=0 C=0 F=0", "");
            MachineCore x = Checks.machine("D2" + memory + "D3" + memory);
            x.run(1);
            Checks.due("a byte shifted by none makes its page", x.count(1), 2);
            x.set(3, 0x1FF);
            x.run(1);
            Checks.due("a word shifted by none makes its pages", x.count(1), 4);
        }
    }

    /** 0 and 1; OVERFLOW by CARRY and the highest bit (0), by the two highest bits (1); the other flags stay. */
    private static void shiftsAround() {
        Checks.step("D0 C0", "A=80 F=0", "A=1 F=801");
        Checks.step("D0 C0", "A=40 F=1", "A=80 F=800");
        Checks.step("D0 C0", "A=C0 F=0", "A=81 F=1");
        Checks.step("D0 C0", "A=1 F=801", "A=2 F=0");
        Checks.step("D0 C0", "A=0 F=7D5", "F=7D4");
        Checks.step("D0 C8", "A=1 F=0", "A=80 F=801");
        Checks.step("D0 C8", "A=80 F=1", "A=40 F=800");
        Checks.step("D0 C8", "A=81 F=0", "A=C0 F=1");
        Checks.step("D0 C8", "A=2 F=801", "A=1 F=0");
        Checks.step("D0 C8", "A=0 F=FD5", "F=7D4");
        Checks.step("D1 C0", "A=8000 F=0", "A=1 F=801");
        Checks.step("D1 C0", "A=80 F=1", "A=100 F=0");
        Checks.step("D1 C8", "A=1 F=0", "A=8000 F=801");
        Checks.step("D1 C8", "A=100 F=1", "A=80 F=0");
    }

    private static void shiftsThroughCarry() {
        Checks.step("D0 D0", "A=80 F=0", "A=0 F=801");
        Checks.step("D0 D0", "A=80 F=1", "A=1 F=801");
        Checks.step("D0 D0", "A=40 F=1", "A=81 F=800");
        Checks.step("D0 D0", "A=C0 F=0", "A=80 F=1");
        Checks.step("D0 D8", "A=1 F=0", "A=0 F=1");
        Checks.step("D0 D8", "A=1 F=1", "A=80 F=801");
        Checks.step("D0 D8", "A=80 F=0", "A=40 F=800");
        Checks.step("D0 D8", "A=80 F=1", "A=C0 F=0");
        Checks.step("D1 D0", "A=8000 F=1", "A=1 F=801");
        Checks.step("D1 D0", "A=80 F=0", "A=100 F=0");
        Checks.step("D1 D8", "A=1 F=1", "A=8000 F=801");
        Checks.step("D1 D8", "A=100 F=0", "A=80 F=0");
    }

    /** 4 and 6, which are alike. */
    private static void shiftsToTheLeft() {
        String[] kinds = {"E0", "F0"};
        for (String m : kinds) {
            Checks.step("D0" + m, "A=80 F=0", "A=0 F=845");
            Checks.step("D0" + m, "A=40 F=1", "A=80 F=880");
            Checks.step("D0" + m, "A=C0 F=0", "A=80 F=81");
            Checks.step("D0" + m, "A=1 F=0", "A=2 F=0");
            Checks.step("D0" + m, "A=FF80 F=10", "A=FF00 F=855");
            Checks.step("D1" + m, "A=8000 F=0", "A=0 F=845");
            Checks.step("D1" + m, "A=4000 F=1", "A=8000 F=884");
            Checks.step("D1" + m, "A=80 F=10", "A=100 F=14");
        }
    }

    private static void shiftsToTheRight() {
        Checks.step("D0 E8", "A=1 F=0", "A=0 F=45");
        Checks.step("D0 E8", "A=80 F=1", "A=40 F=800");
        Checks.step("D0 E8", "A=81 F=0", "A=40 F=801");
        Checks.step("D0 E8", "A=7F F=810", "A=3F F=15");
        Checks.step("D1 E8", "A=8000 F=0", "A=4000 F=804");
        Checks.step("D1 E8", "A=1 F=0", "A=0 F=45");
        Checks.step("D0 F8", "A=1 F=0", "A=0 F=45");
        Checks.step("D0 F8", "A=80 F=1", "A=C0 F=84");
        Checks.step("D0 F8", "A=81 F=0", "A=C0 F=85");
        Checks.step("D0 F8", "A=FF F=0", "A=FF F=85");
        Checks.step("D0 F8", "A=7F F=810", "A=3F F=15");
        Checks.step("D1 F8", "A=8000 F=800", "A=C000 F=84");
        Checks.step("D1 F8", "A=FFFF F=0", "A=FFFF F=85");
        Checks.step("D0 E8", "A=FF02 F=0", "A=FF01 F=0");
        Checks.step("D0 F8", "A=FF02 F=0", "A=FF01 F=0");
        Checks.step("D2 EC", "A=2FF C=1", "A=1FF F=0");
        Checks.step("D0 2C", "[30000]=02FF", "[30000]=01FF F=0");
        Checks.step("D2 3C", "C=2 [30000]=04FF", "C=2 [30000]=01FF F=0");
        Checks.step("D1 2C", "[30000]=0001", "[30000]=8000 F=0");
    }

    /** So many times as the lower byte of C says, up to 255, OVERFLOW by the last of them. */
    private static void shiftsManyTimes() {
        Checks.step("D2 C0", "A=81 C=8 F=0", "A=81 F=1");
        Checks.step("D2 C0", "A=81 C=7 F=0", "A=C0 F=800");
        Checks.step("D2 C0", "A=1 C=FF F=0", "A=80 F=800");
        Checks.step("D2 C8", "A=1 C=FF F=0", "A=2 F=0");
        Checks.step("D2 D0", "A=1 C=9 F=0", "A=1 F=0");
        Checks.step("D2 D0", "A=1 C=8 F=0", "A=0 F=801");
        Checks.step("D2 D8", "A=1 C=109 F=1", "A=1 F=1");
        Checks.step("D3 D0", "A=1 C=11 F=0", "A=1 F=0");
        Checks.step("D3 D8", "A=1 C=11 F=0", "A=1 F=0");
        Checks.step("D2 E0", "A=1 C=7 F=0", "A=80 F=880");
        Checks.step("D2 E0", "A=1 C=8 F=0", "A=0 F=845");
        Checks.step("D2 E0", "A=1 C=9 F=0", "A=0 F=44");
        Checks.step("D2 E8", "A=80 C=8 F=0", "A=0 F=45");
        Checks.step("D2 E8", "A=80 C=9 F=0", "A=0 F=44");
        Checks.step("D2 F8", "A=80 C=7 F=0", "A=FF F=84");
        Checks.step("D2 F8", "A=80 C=FF F=0", "A=FF F=85");
        Checks.step("D3 E0", "A=1 C=10 F=0", "A=0 F=845");
        Checks.step("D3 E0", "A=1 C=11 F=0", "A=0 F=44");
        Checks.step("D3 F8", "A=8000 C=FF F=0", "A=FFFF F=85");
        Checks.step("D3 E0", "A=1 C=100 F=FD5", "");
        Checks.step("D2 E1", "C=2 F=0", "C=8 F=0");
        Checks.step("D3 E1", "C=104 F=0", "C=1040 F=0");
    }

    /** CARRY and OVERFLOW both when the product is another number than its lower half; no other flags. */
    private static void products() {
        Checks.step("F6 E1", "A=F C=11 F=FD5", "A=FF F=7D4");
        Checks.step("F6 E1", "A=10 C=10 F=0", "A=100 F=801");
        Checks.step("F6 E1", "A=FF C=FF F=0", "A=FE01 F=801");
        Checks.step("F6 E1", "A=FF00 C=FF F=801", "A=0 F=0");
        Checks.step("F6 E1", "A=FF C=1 F=0", "A=FF");
        Checks.step("F6 E0", "A=FF0C", "A=90");
        Checks.step("F6 E4", "A=30C", "A=24");
        Checks.step("F7 E1", "A=FF C=101 D=9", "A=FFFF D=0");
        Checks.step("F7 E1", "A=100 C=100 D=9", "A=0 D=1 F=801");
        Checks.step("F7 E1", "A=FFFF C=FFFF", "A=1 D=FFFE F=801");
        Checks.step("F7 E1", "A=FFFF C=1 D=9 F=801", "A=FFFF D=0 F=0");
        Checks.step("F7 E2", "A=FFFF D=2", "A=FFFE D=1 F=801");
    }

    private static void signedProducts() {
        Checks.step("F6 E9", "A=7F C=1 F=FD5", "A=7F F=7D4");
        Checks.step("F6 E9", "A=40 C=2 F=0", "A=80 F=801");
        Checks.step("F6 E9", "A=C0 C=2 F=801", "A=FF80 F=0");
        Checks.step("F6 E9", "A=2B C=FD F=0", "A=FF7F F=801");
        Checks.step("F6 E9", "A=80 C=80 F=0", "A=4000 F=801");
        Checks.step("F6 E9", "A=80 C=FF F=0", "A=80 F=801");
        Checks.step("F6 E9", "A=80 C=1 F=0", "A=FF80");
        Checks.step("F6 E9", "A=FF C=FF F=801", "A=1 F=0");
        Checks.step("F7 E9", "A=7FFF C=1 D=9", "A=7FFF D=0");
        Checks.step("F7 E9", "A=4000 C=2 D=9", "A=8000 D=0 F=801");
        Checks.step("F7 E9", "A=C000 C=2 D=9 F=801", "A=8000 D=FFFF F=0");
        Checks.step("F7 E9", "A=8000 C=8000", "A=0 D=4000 F=801");
        Checks.step("F7 E9", "A=8000 C=FFFF", "A=8000 D=0 F=801");
        Checks.step("F7 E9", "A=FFFF C=1", "A=FFFF D=FFFF");
    }

    /** Cut off towards 0; FLAGS stay. */
    private static void quotients() {
        Checks.step("F6 F1", "A=1FE C=2 F=FD5", "A=FF");
        Checks.step("F6 F1", "A=1FF C=2 F=0", "A=1FF");
        Checks.step("F6 F1", "A=FEFF C=FF F=0", "A=FEFF");
        Checks.step("F6 F1", "A=0 C=FF F=FD5", "A=0");
        Checks.step("F6 F1", "A=FE C=FF", "A=FE00");
        Checks.step("F6 F0", "A=FF", "A=1");
        Checks.step("F7 F1", "D=1 A=FFFE C=2 F=FD5", "A=FFFF D=0");
        Checks.step("F7 F1", "D=1 A=FFFF C=2", "A=FFFF D=1");
        Checks.step("F7 F1", "D=FFFE A=FFFF C=FFFF", "A=FFFF D=FFFE");
        Checks.step("F7 F1", "D=0 A=FFFE C=FFFF", "A=0 D=FFFE");
    }

    private static void noQuotient(String code, String before) {
        Checks.step(code, before + " F=FD5 [00000]=78563412", "IP=5678 CODE=1234 F=CD5 SP=FA [200FA]=12000010D7FF");
    }

    /** The rest has the sign of the first. */
    private static void signedQuotients() {
        Checks.step("F6 F9", "A=7 C=2 F=FD5", "A=103");
        Checks.step("F6 F9", "A=7 C=FE F=FD5", "A=1FD");
        Checks.step("F6 F9", "A=FFF9 C=2 F=0", "A=FFFD");
        Checks.step("F6 F9", "A=FFF9 C=FE F=0", "A=FF03");
        Checks.step("F6 F9", "A=7F C=1", "A=7F");
        Checks.step("F6 F9", "A=7F C=FF", "A=81");
        Checks.step("F6 F9", "A=FF81 C=1", "A=81");
        Checks.step("F6 F9", "A=FF C=2", "A=17F");
        Checks.step("F6 F9", "A=FF01 C=2", "A=FF81");
        Checks.step("F6 F9", "A=3FFF C=80", "A=7F81");
        Checks.step("F6 F9", "A=FF80 C=80", "A=1");
        Checks.step("F7 F9", "D=0 A=7 C=FFFE", "A=FFFD D=1");
        Checks.step("F7 F9", "D=FFFF A=FFF9 C=2", "A=FFFD D=FFFF");
        Checks.step("F7 F9", "D=0 A=7FFF C=FFFF", "A=8001 D=0");
        Checks.step("F7 F9", "D=FFFF A=8001 C=1", "A=8001 D=0");
        Checks.step("F7 F9", "D=0 A=FFFF C=2", "A=7FFF D=1");
        Checks.step("F7 F9", "D=FFFF A=8000 C=8000", "A=1 D=0");
    }

    private static void noQuotients() {
        noQuotient("F6 F1", "A=0 C=FF00");
        noQuotient("F6 F1", "A=200 C=2");
        noQuotient("F6 F1", "A=FF00 C=FF");
        noQuotient("F6 F1", "A=FFFF C=1");
        noQuotient("F6 F9", "A=0 C=0");
        noQuotient("F6 F9", "A=80 C=1");
        noQuotient("F6 F9", "A=100 C=2");
        noQuotient("F6 F9", "A=FF80 C=1");
        noQuotient("F6 F9", "A=80 C=FF");
        noQuotient("F6 F9", "A=FF80 C=FF");
        noQuotient("F6 F9", "A=8000 C=FF");
        noQuotient("F6 F9", "A=8000 C=80");
        noQuotient("F6 F9", "A=4000 C=80");
        noQuotient("F7 F1", "D=0 A=0 C=0");
        noQuotient("F7 F1", "D=2 A=0 C=2");
        noQuotient("F7 F1", "D=FFFF A=0 C=FFFF");
        noQuotient("F7 F9", "D=0 A=0 C=0");
        noQuotient("F7 F9", "D=0 A=8000 C=1");
        noQuotient("F7 F9", "D=1 A=0 C=2");
        noQuotient("F7 F9", "D=FFFF A=8000 C=1");
        noQuotient("F7 F9", "D=8000 A=0 C=FFFF");
        noQuotient("F7 F9", "D=8000 A=0 C=8000");
        noQuotient("F6 37", "A=1234");
        noQuotient("F6 F4", "A=FFFF");
        noQuotient("F7 F2", "D=8000 A=1");
    }

    /** Adjustments 0 and 1: lowest four bits 9, 10; l 153, 154; 5, 6 with HALF. OVERFLOW and h stay. */
    private static void decimal() {
        Checks.step("27", "A=FF09 F=800", "A=FF09 F=804");
        Checks.step("27", "A=FF0A F=800", "A=FF10 F=810");
        Checks.step("27", "A=99", "A=99 F=84");
        Checks.step("27", "A=9A", "A=0 F=55");
        Checks.step("27", "A=A0", "A=0 F=45");
        Checks.step("27", "A=90", "A=90 F=84");
        Checks.step("27", "A=0 F=1", "A=60 F=5");
        Checks.step("27", "A=0 F=10", "A=6 F=14");
        Checks.step("27", "A=FA F=11", "A=60 F=15");
        Checks.step("27", "A=93 F=10", "A=99 F=94");
        Checks.step("2F", "A=FF09 F=800", "A=FF09 F=804");
        Checks.step("2F", "A=FF0A F=800", "A=FF04 F=810");
        Checks.step("2F", "A=99", "A=99 F=84");
        Checks.step("2F", "A=9A", "A=34 F=11");
        Checks.step("2F", "A=A0", "A=40 F=1");
        Checks.step("2F", "A=5 F=10", "A=FF F=95");
        Checks.step("2F", "A=6 F=10", "A=0 F=54");
        Checks.step("2F", "A=5 F=11", "A=9F F=95");
        Checks.step("2F", "A=5 F=1", "A=A5 F=85");
        Checks.step("2F", "A=60 F=1", "A=0 F=45");
    }

    /** Adjustments 2 and 3: h wraps by itself, l does not go over to it; no flags by an answer. */
    private static void unpacked() {
        Checks.step("37", "A=9 F=8C5", "A=9 F=8C4");
        Checks.step("37", "A=A F=8C4", "A=100 F=8D5");
        Checks.step("37", "A=FF0F", "A=5 F=11");
        Checks.step("37", "A=FFFF", "A=5 F=11");
        Checks.step("37", "A=F9", "A=9");
        Checks.step("37", "A=0 F=10", "A=106 F=11");
        Checks.step("37", "A=0 F=1", "A=0 F=0");
        Checks.step("3F", "A=9 F=8C5", "A=9 F=8C4");
        Checks.step("3F", "A=A F=8C4", "A=FF04 F=8D5");
        Checks.step("3F", "A=100 F=10", "A=A F=11");
        Checks.step("3F", "A=0 F=10", "A=FF0A F=11");
        Checks.step("3F", "A=105 F=10", "A=F F=11");
        Checks.step("3F", "A=F9", "A=9");
    }

    /** Adjustments 4 and 5; CARRY, HALF and OVERFLOW stay. */
    private static void byBase() {
        Checks.step("D4 01", "A=12FF F=811", "A=FF00 F=855");
        Checks.step("D4 FF", "A=12FE F=0", "A=FE F=80");
        Checks.step("D4 FF", "A=12FF F=0", "A=100 F=44");
        Checks.step("D4 80", "A=7F F=0", "A=7F F=0");
        Checks.step("D4 10", "A=FF F=0", "A=F0F F=4");
        Checks.step("D4 0A", "A=9", "A=9 F=4");
        Checks.step("D4 0A", "A=A", "A=100 F=44");
        Checks.step("D5 00", "A=FFFF F=811", "A=FF F=895");
        Checks.step("D5 01", "A=FFFF", "A=FE F=80");
        Checks.step("D5 0A", "A=1905", "A=FF F=84");
        Checks.step("D5 0A", "A=1906", "A=0 F=44");
        Checks.step("D5 FF", "A=FF00", "A=1 F=0");
        noQuotient("D4 00", "A=FFFF");
        noQuotient("D4 00", "A=0");
    }

    /** Each condition by all sets of the flags that conditions look at. */
    private static void conditions() {
        for (int f = 0; f < 64; f++) {
            boolean carry = (f & 1) != 0;
            boolean parity = (f & 2) != 0;
            boolean zero = (f & 4) != 0;
            boolean sign = (f & 8) != 0;
            boolean overflow = (f & 16) != 0;
            int set = (carry ? 1 : 0) + (parity ? 4 : 0) + (zero ? 64 : 0) + (sign ? 128 : 0) + (overflow ? 2048 : 0)
                    + ((f & 32) != 0 ? 16 + 1024 : 0);
            boolean less = sign != overflow;
            boolean[] holds = {overflow, carry, zero, carry || zero, sign, parity, less, less || zero};
            for (int condition = 0; condition < 16; condition++) {
                String to = holds[condition / 2] == (condition % 2 == 0) ? "IP=22" : "";
                String state = "F=" + Integer.toHexString(set);
                Checks.step(String.format("%02X10", 0x70 + condition), state, to);
                Checks.step(String.format("%02X10", 0x60 + condition), state, to);
            }
        }
    }
}

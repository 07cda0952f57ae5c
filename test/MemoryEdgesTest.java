/** The boundary cases of MEMORY: places, words, the pages and what is lost. */
public final class MemoryEdgesTest {
    private static final int END = 1 << 20;

    public static void main(String[] args) {
        placesOfTwentyBits();
        sameBytesByOtherSegments();
        wordsAtTheLastOffset();
        wordsWithinTwentyBits();
        eachWordReaderAtTheLastOffset();
        stackAtTheEdges();
        codesAtTheLastOffset();
        bytesAreZeroUntilWritten();
        pagesByUpperTwelveBits();
        the256thPageAndTheNext();
        fourBytesOverThePagesEdge();
        lostByEachWriter();
        Checks.finish();
    }

    /** 16 times the segment and the offset, without what is above 20 bits. */
    private static void placesOfTwentyBits() {
        Checks.step("A2 0E 00", "DATA=FFFF A=77", "[FFFFE]=7700 [00000]=00");
        Checks.step("A2 0F 00", "DATA=FFFF A=77", "[FFFFF]=77 [00000]=00");
        Checks.step("A2 10 00", "DATA=FFFF A=77", "[00000]=77 [FFFFF]=00");
        Checks.step("A2 11 00", "DATA=FFFF A=77", "[00000]=0077");
        Checks.step("A0 FF FF", "DATA=FFFF [0FFEC]=00000077", "A=77");
        Checks.step("A0 FF FF", "DATA=F000 [FFFFC]=00000077", "A=77");
        Checks.step("A0 00 00", "DATA=0 [00000]=77", "A=77");
        Checks.step("A0 FF FF", "DATA=F001 [00008]=0000000000000077", "A=77");
    }

    private static void sameBytesByOtherSegments() {
        Checks.step("A2 10 00", "DATA=3000 A=77", "[30010]=77");
        Checks.step("A2 00 00", "DATA=3001 A=77", "[30010]=77");
        Checks.step("A2 00 10", "DATA=2F01 A=77", "[30010]=77");
    }

    /** The upper byte of a word at offset 65535 is at offset 0 of the same segment. */
    private static void wordsAtTheLastOffset() {
        Checks.step("A3 FD FF", "A=1234", "[3FFFD]=341200 [30000]=00");
        Checks.step("A3 FE FF", "A=1234", "[3FFFE]=3412 [30000]=00");
        Checks.step("A3 FF FF", "A=1234", "[3FFFE]=0034 [30000]=1200 [40000]=00");
        Checks.step("A3 00 00", "A=1234", "[3FFFF]=00 [30000]=3412");
        Checks.step("A1 FE FF", "[3FFFC]=00003412 [30000]=99", "A=1234");
        Checks.step("A1 FF FF", "[3FFFC]=00009934 [30000]=12 [40000]=99", "A=1234");
        Checks.step("A1 00 00", "[3FFFC]=00000099 [30000]=3412", "A=1234");
    }

    /** The end of the 20 bits is no offset's end. */
    private static void wordsWithinTwentyBits() {
        Checks.step("A3 0E 00", "A=1234 DATA=FFFF", "[FFFFE]=3412 [00000]=00");
        Checks.step("A3 0F 00", "A=1234 DATA=FFFF", "[FFFFF]=34 [00000]=1200 [EFFFF]=00");
        Checks.step("A3 FF FF", "A=1234 DATA=F000", "[FFFFF]=34 [F0000]=12 [00000]=00");
        Checks.step("A3 FF FF", "A=1234 DATA=FFFF", "[0FFEF]=34 [FFFF0]=12 [0FFF0]=00");
        Checks.step("A1 0F 00", "DATA=FFFF [FFFFC]=00000034 [00000]=12", "A=1234");
    }

    private static void eachWordReaderAtTheLastOffset() {
        String word = "[3FFFC]=00009934 [30000]=12 ";
        Checks.step("8B 1E FF FF", word, "B=1234");
        Checks.step("8B 5F FF", word + "B=0", "B=1234");
        Checks.step("03 1E FF FF", word + "B=1111", "B=2345 F=0");
        Checks.step("8E 06 FF FF", word, "E=1234");
        Checks.step("FF 26 FF FF", word, "IP=1234");
        Checks.step("FF 36 FF FF", word, "SP=FE [200FE]=3412");
        Checks.step("FF 16 FF FF", word, "SP=FE IP=1234 [200FE]=1400");
        Checks.step("87 1E FF FF", word + "B=5678", "B=1234 [3FFFE]=9978 [30000]=56");
        Checks.step("FF 06 FF FF", word, "[3FFFE]=9935 [30000]=12 F=4");
        Checks.step("F7 16 FF FF", word, "[3FFFE]=99CB [30000]=ED");
        Checks.step("D1 26 FF FF", word, "[3FFFE]=9968 [30000]=24 F=0");
        Checks.step("C7 06 FF FF 78 56", word, "[3FFFE]=9978 [30000]=5600");
        Checks.step("8C 1E FF FF", word, "[3FFFE]=9900 [30000]=30");
        Checks.step("8F 06 FF FF", word + "[20100]=7856", "SP=102 [3FFFE]=9978 [30000]=56");
        Checks.step("89 1E FF FF", word + "B=5678", "[3FFFE]=9978 [30000]=56");
        String two = "[3FFF8]=0000000000341278 [30000]=5678 ";
        Checks.step("C4 1E FD FF", two, "B=1234 E=5678");
        Checks.step("C5 1E FE FF", "[3FFFC]=00003412 [30000]=7856", "B=1234 DATA=5678");
        Checks.step("C4 1E FF FF", "[3FFFC]=00000034 [30000]=127856", "B=1234 E=5678");
        Checks.step("FF 2E FF FF", "[3FFFC]=00000034 [30000]=127856", "IP=1234 CODE=5678");
        Checks.step("FF 2E FD FF", two, "IP=1234 CODE=5678");
        Checks.step("FF 1E FE FF", "[3FFFC]=00003412 [30000]=7856",
                "IP=1234 CODE=5678 SP=FC [200FC]=14000010");
    }

    private static void stackAtTheEdges() {
        Checks.step("50", "A=1234 SP=3", "SP=1 [20001]=3412");
        Checks.step("50", "A=1234 SP=2", "SP=0 [20000]=3412 [2FFFF]=00");
        Checks.step("50", "A=1234 SP=1", "SP=FFFF [2FFFF]=34 [20000]=1200");
        Checks.step("50", "A=1234 SP=0", "SP=FFFE [2FFFE]=3412 [20000]=00");
        Checks.step("58", "SP=FFFD [2FFFC]=00341200", "SP=FFFF A=1234");
        Checks.step("58", "SP=FFFE [2FFFC]=00003412", "SP=0 A=1234");
        Checks.step("58", "SP=FFFF [2FFFC]=00000034 [20000]=12", "SP=1 A=1234");
        Checks.step("CD 05", "SP=5 F=0 [00014]=78563412",
                "SP=FFFF IP=5678 CODE=1234 [2FFFF]=12 [20000]=00001002F0");
        Checks.step("CB", "SP=FFFD [2FFFC]=00341278 [20000]=56", "SP=1 IP=1234 CODE=5678");
        Checks.step("9A 34 12 78 56", "SP=3", "SP=FFFF IP=1234 CODE=5678 [2FFFF]=15 [20000]=000010");
    }

    /** Behind IP 65535 comes IP 0 of the same CODE, wherever in a code that is. */
    private static void codesAtTheLastOffset() {
        String[] codes = {"40", "B0 77", "B8 34 12", "26 A0 05 00", "C7 47 04 34 12", "81 06 04 00 34 12"};
        for (String code : codes) {
            int[] bytes = Checks.bytes(code);
            for (int behind = 0; behind <= bytes.length; behind++) {
                MachineCore x = Checks.machine("");
                MachineCore plain = Checks.machine(code);
                int ip = 0x10000 - bytes.length + behind;
                for (int i = 0; i < bytes.length; i++) {
                    int place = 0x10000 + (ip + i & 0xFFFF);
                    x.write(place, bytes[i] << 24 | (place == 0x1FFFF ? 0 : x.byteAt(place + 1) << 16));
                }
                x.write(0x20000, 0);
                x.set(12, ip);
                plain.run(1);
                String what = code + " with " + behind + " bytes behind 65535 ";
                Checks.due(what + "run", x.run(1), MachineCore.DONE);
                Checks.due(what + "IP", x.get(12), behind);
                for (int r = 0; r < 14; r++) {
                    Checks.due(what + r, x.get(r), r == 12 ? behind : plain.get(r));
                }
                Checks.due(what + "memory", x.byteAt(0x30004), plain.byteAt(0x30004));
            }
        }
    }

    private static void bytesAreZeroUntilWritten() {
        Checks.step("A1 00 00", "A=1234 DATA=7000", "A=0");
        Checks.step("58", "A=1234 STACK=7000", "A=0 SP=102");
        MachineCore x = new MachineCore();
        Checks.due("00 00 is a code", x.run(1), MachineCore.DONE);
        Checks.due("of two bytes", x.get(12), 2);
        x.write(4, 0x11000000);
        Checks.due("before what is written", x.byteAt(3), 0);
        Checks.due("what is written", x.byteAt(4), 0x11);
    }

    /** Places 255 and 256 are of two pages; the first and the last page are pages like others. */
    private static void pagesByUpperTwelveBits() {
        int[][] all = {{0, 1}, {252, 1}, {253, 2}, {254, 2}, {255, 2}, {256, 1}, {END - 4, 1}, {END - 256, 1},
            {END - 257, 2}, {END - 260, 1}, {0x80000 - 2, 2}};
        for (int[] one : all) {
            MachineCore x = new MachineCore();
            x.write(one[0], 0x01020304);
            Checks.due("pages of four bytes at " + one[0], x.count(1), one[1]);
            x.write(one[0], 0);
            Checks.due("no more by writing again", x.count(1), one[1]);
            Checks.due("none lost", x.count(2), 0);
        }
        MachineCore y = new MachineCore();
        y.write(0x500, 0x11111111);
        Checks.due("another page with the same lower bits", y.byteAt(0x600), 0);
        Checks.due("and with the same upper ones below", y.byteAt(0x10500), 0);
    }

    private static MachineCore withPages(int n) {
        MachineCore x = new MachineCore();
        for (int i = 0; i < n; i++) {
            x.write(0x80000 + 256 * i, 0x01010101);
        }
        Checks.due("pages before", x.count(1), n);
        return x;
    }

    private static void the256thPageAndTheNext() {
        MachineCore x = withPages(255);
        x.write(0x1000, 0x0A0B0C0D);
        Checks.due("the 256th came", x.byteAt(0x1003), 0x0D);
        Checks.due("256", x.count(1), 256);
        Checks.due("none lost", x.count(2), 0);
        x.write(0x2000, 0x0A0B0C0D);
        Checks.due("the 257th did not", x.byteAt(0x2003), 0);
        Checks.due("still 256", x.count(1), 256);
        Checks.due("four lost", x.count(2), 4);
        x.write(0x2000, 0);
        Checks.due("zeros are lost, too", x.count(2), 8);
        x.write(0x80000 + 255 * 256 - 4, 0x0A0B0C0D);
        Checks.due("the last of a page there is", x.byteAt(0x80000 + 255 * 256 - 1), 0x0D);
        x.write(0x10FC, 0x0A0B0C0D);
        Checks.due("the last of the 256th", x.byteAt(0x10FF), 0x0D);
        Checks.due("nothing more lost", x.count(2), 8);
    }

    /** Of four bytes over the edge between a page that is there and one that is not 1, 2 or 3 are lost. */
    private static void fourBytesOverThePagesEdge() {
        for (int before = 0; before <= 4; before++) {
            MachineCore x = withPages(256);
            int edge = 0x80000 + 256 * 256;
            x.write(edge - before, 0x11121314);
            Checks.due(before + " kept, others lost", x.count(2), 4 - before);
            for (int i = 0; i < 4; i++) {
                int due = i < before ? 0x11 + i : 0;
                Checks.due(before + " before the edge, byte " + i, x.byteAt(edge - before + i), due);
            }
            MachineCore y = withPages(256);
            y.write(0x80000 - before, 0x11121314);
            Checks.due(before + " lost, others kept", y.count(2), before);
            for (int i = 0; i < 4; i++) {
                int due = i < before ? 0 : 0x11 + i;
                Checks.due(before + " before the first, byte " + i, y.byteAt(0x80000 - before + i), due);
            }
        }
        MachineCore z = withPages(255);
        z.write(0x10FE, 0x11121314);
        Checks.due("the lower page came first", z.byteAt(0x10FF), 0x12);
        Checks.due("the next one is the 257th", z.byteAt(0x1100), 0);
        Checks.due("two lost", z.count(2), 2);
    }

    /** How many bytes each code loses where no page comes any more. */
    private static void lostByEachWriter() {
        lost("A2 00 00", 1);
        lost("A3 00 00", 2);
        lost("88 07", 1);
        lost("C5 07", 0);
        lost("C4 07", 0);
        lost("89 07", 2);
        lost("50", 2);
        lost("9C", 2);
        lost("E8 00 00", 2);
        lost("9A 00 00 00 00", 4);
        lost("CD 05", 6);
        lost("AA", 1);
        lost("AB", 2);
        lost("A4", 1);
        lost("F3 AB", 20);
        lost("86 07", 1);
        lost("D0 07", 1);
        lost("D3 2F", 2);
        lost("8C 07", 2);
        lost("8F 07", 2);
        lost("C6 07 00", 1);
        lost("01 07", 2);
        lost("38 07", 0);
        lost("39 07", 0);
        lost("85 07", 0);
        lost("83 3F 05", 0);
        lost("F7 07 05 00", 0);
        lost("A6", 0);
        lost("8B 07", 0);
        lost("E7 05", 0);
        lost("FE D0", 0);
    }

    private static void lost(String code, int due) {
        MachineCore x = Checks.machine(code);
        x.set(1, 10);
        x.set(0, 0x1234);
        x.set(10, 0x6000);
        for (int i = 0; i < 255; i++) {
            x.write(0x80000 + 256 * i, 0);
        }
        x.run(1);
        Checks.due(code + " loses", x.count(2), due);
        Checks.due(code + " makes no page", x.count(1), 256);
        if (code.startsWith("88") || code.startsWith("89") || code.startsWith("A2")) {
            Checks.due(code + " leaves A", x.get(0), 0x1234);
        }
        Checks.due(code + " data", x.byteAt(0x30000), 0);
        Checks.due(code + " stack", x.byteAt(0x600FE), 0);
    }
}

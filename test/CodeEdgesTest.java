/** The boundary cases of CODES: prefixes, M, REPEAT, PUSHED and POPPED, jumps that leave 16 bits, what is written. */
public final class CodeEdgesTest {
    public static void main(String[] args) {
        prefixesBeforeACode();
        theLastPrefixCounts();
        repeatOnlyForStrings();
        fifteenBytesAndSixteen();
        prefixesWithoutEnd();
        noCodesOneByOne();
        noCodeChangesNothing();
        displacements();
        segmentsOfM();
        offsetsWithoutWhatIsAbove();
        halvesOfRegisters();
        signedBytes();
        segmentNumbers();
        rThatDoesNotCount();
        pushed();
        popped();
        jumpsOverTheEdges();
        callsOverTheEdges();
        returnsOverTheEdges();
        loopsAtTheEdges();
        stringsOverTheEdges();
        repeatsAtTheEdges();
        repeatsThatEndByZero();
        repeatsOfSixtyFour();
        loadsOfSegments();
        tableAtTheEdge();
        portsAtTheEdge();
        oneFlagEach();
        nothingIsLeftOfTheCodeBefore();
        Checks.finish();
    }

    /** Any number of prefixes, as long as there are no more than 15 bytes. */
    private static void prefixesBeforeACode() {
        String[] prefixes = {"26", "2E", "36", "3E", "F0", "F1", "F2", "F3"};
        for (String prefix : prefixes) {
            StringBuilder code = new StringBuilder("40");
            for (int n = 0; n < 14; n++) {
                Checks.step(code.toString(), "", "A=1 F=0");
                code.insert(0, prefix);
            }
            Checks.step(code.toString(), "", "A=1 F=0");
            Checks.noCode(code.insert(0, prefix).toString(), "A=1234 F=FD5");
        }
    }

    private static void theLastPrefixCounts() {
        String bytes = "[30000]=11 [40000]=22 [20000]=33 [10000]=44 ";
        String[] segments = {"26", "2E", "36", "3E"};
        String[] found = {"22", "44", "33", "11"};
        for (int i = 0; i < 4; i++) {
            for (int k = 0; k < 4; k++) {
                Checks.step(segments[i] + segments[k] + "8A07", bytes, "A=" + found[k]);
                Checks.step(segments[i] + "F3F0" + segments[k] + "F2F1 8A07", bytes, "A=" + found[k]);
            }
        }
        String same = "C=3 A=11 [40000]=11111111 ";
        Checks.step("F2 F3 AE", same, "C=0 DI=3 F=44");
        Checks.step("F3 F2 AE", same, "C=2 DI=1 F=44");
        Checks.step("F3 26 F0 F1 AE", same, "C=0 DI=3 F=44");
        Checks.step("F2 36 F0 F1 AE", same, "C=2 DI=1 F=44");
    }

    /** A prefix is forgotten behind its code; REPEAT does nothing to what is no string. */
    private static void repeatOnlyForStrings() {
        Checks.step("F3 40", "C=5", "A=1 F=0");
        Checks.step("F2 A8 00", "C=0", "F=44");
        Checks.step("F3 A9 00 00", "C=0", "F=44");
        Checks.step("F3 A0 00 00", "C=0 [30000]=77", "A=77");
        Checks.step("F3 A3 00 00", "C=0 A=1234", "[30000]=3412");
        Checks.step("F3 B0 77", "C=0", "A=77");
        Checks.steps(2, "26 A0 00 00 8A 27", "[40000]=22 [30000]=11", "A=1122");
        Checks.steps(2, "F3 AA AA", "C=2 A=7", "C=0 DI=3 [40000]=07070700");
        Checks.steps(2, "36 A6 A4", "[20000]=11 [30001]=22", "SI=2 DI=2 F=4 [40000]=0022");
        MachineCore x = Checks.machine("F3 40 A8 00");
        x.set(1, 5);
        x.run(2);
        Checks.due("repetitions of what is no string", x.count(3), 0);
    }

    private static void fifteenBytesAndSixteen() {
        String thirteen = "26262626262626262626262626";
        Checks.step(thirteen + "26 40", "", "A=1 F=0");
        Checks.noCode(thirteen + "2626 40", "");
        Checks.step(thirteen + "B0 77", "", "A=77");
        Checks.noCode(thirteen + "26 B0 77", "");
        Checks.noCode(thirteen + "26 B8 34 12", "");
        Checks.noCode(thirteen + "2626", "");
        Checks.step(thirteen.substring(10) + "2E 81 06 00 02 01 00", "",
                "[10200]=0100 F=0");
        Checks.noCode(thirteen.substring(8) + "2E2E 81 06 00 02 01 00", "");
        MachineCore x = Checks.machine("");
        x.set(12, 0xFFF8);
        Checks.put(x, 0x1FFF8, "2626262626262626");
        Checks.put(x, 0x10000, "262626262626 40 90");
        Checks.due("15 bytes over the edge of CODE", x.run(1), MachineCore.DONE);
        Checks.due("IP", x.get(12), 7);
        x.set(12, 0xFFF7);
        x.write(0x1FFF4, 0x90909026);
        Checks.due("16 bytes over the edge of CODE", x.run(1), MachineCore.NO_CODE);
        Checks.due("IP is where it begins", x.get(12), 0xFFF7);
    }

    /** All of CODE's 65536 bytes are prefixes: NO CODE all the same, wherever IP is. */
    private static void prefixesWithoutEnd() {
        MachineCore x = new MachineCore();
        x.set(9, 0x8000);
        x.set(8, 0x8000);
        x.set(12, 0xFF00);
        x.set(0, 0x2626);
        x.set(1, 0x7F80);
        x.write(0x8FF00, 0xF3AB9090);
        Checks.due("all but the last page", x.run(500) + x.run(10), MachineCore.DONE);
        Checks.due("C", x.get(1), 0);
        for (int place = 0x8FF00; place < 0x90000; place += 4) {
            x.write(place, 0x26262626);
        }
        int[] places = {0, 1, 0x1234, 0xFFF1, 0xFFF2, 0xFFFF};
        for (int ip : places) {
            x.set(12, ip);
            Checks.due("prefixes from " + ip, x.run(500), MachineCore.NO_CODE);
            Checks.due("IP stays", x.get(12), ip);
        }
        Checks.due("pages", x.count(1), 256);
        Checks.due("none lost", x.count(2), 0);
    }

    private static void noCodesOneByOne() {
        String[] none = {"8D C0", "8D FF", "C4 C0", "C4 FF", "C5 C0", "C5 FF", "FE D0", "FE F8", "FE 10", "FE 38",
            "FE 96 00 00", "FF D8", "FF DF", "FF E8", "FF EF"};
        for (String code : none) {
            Checks.noCode(code, "A=1234 C=5 F=FD5");
            Checks.noCode("26 F3" + code, "A=1234 C=5 F=FD5");
        }
        Checks.step("8D 87 00 00", "B=5", "A=5");
        Checks.step("FE C7", "B=100", "B=200 F=0");
        Checks.step("FE CF", "B=200", "B=100 F=0");
        Checks.step("FF D7", "DI=1234", "IP=1234 SP=FE [200FE]=1200");
        Checks.step("FF E7", "DI=1234", "IP=1234");
        Checks.step("FF F7", "DI=1234", "SP=FE [200FE]=3412");
        Checks.step("FF FF", "DI=1234", "SP=FE [200FE]=3412");
    }

    private static void noCodeChangesNothing() {
        MachineCore x = Checks.machine("40 26 F3 FE 56 12");
        x.set(1, 5);
        x.set(13, 0xCD5);
        x.setPort(5, 6);
        x.run(1);
        for (int again = 0; again < 3; again++) {
            Checks.due("NO CODE", x.run(again == 0 ? 1 : 500), MachineCore.NO_CODE);
            Checks.due("IP where its prefixes begin", x.get(12), 0x11);
            Checks.due("it is no step", x.count(0), 1);
            Checks.due("no page", x.count(1), 1);
            Checks.due("C", x.get(1), 5);
            Checks.due("FLAGS", x.get(13), 0x401);
            Checks.due("port", x.port(5), 6);
        }
        x.set(12, 0x10);
        Checks.due("it goes on elsewhere", x.run(1), MachineCore.DONE);
    }

    /** None for mode 0, a signed byte for 1, a word for 2; for mode 0 and m 6 a word alone. */
    private static void displacements() {
        Checks.step("8D 07", "B=1000", "A=1000");
        Checks.step("8D 47 00", "B=1000", "A=1000");
        Checks.step("8D 47 01", "B=1000", "A=1001");
        Checks.step("8D 47 7F", "B=1000", "A=107F");
        Checks.step("8D 47 80", "B=1000", "A=F80");
        Checks.step("8D 47 FF", "B=1000", "A=FFF");
        Checks.step("8D 87 7F 00", "B=1000", "A=107F");
        Checks.step("8D 87 80 00", "B=1000", "A=1080");
        Checks.step("8D 87 FF 7F", "B=1000", "A=8FFF");
        Checks.step("8D 87 00 80", "B=1000", "A=9000");
        Checks.step("8D 87 FF FF", "B=1000", "A=FFF");
        Checks.step("8D 06 FF FF", "BP=5", "A=FFFF");
        Checks.step("8D 06 00 00", "BP=5", "A=0");
        Checks.step("8D 46 00", "BP=5", "A=5");
        Checks.step("8D 86 00 00", "BP=5", "A=5");
        Checks.step("8D 04", "SI=7 DI=9", "A=7");
        Checks.step("8D 05", "SI=7 DI=9", "A=9");
    }

    /** STACK where BP is in it, otherwise DATA: BP is not in mode 0 and m 6. */
    private static void segmentsOfM() {
        String bytes = "[30005]=33 [20005]=22 ";
        Checks.step("8A 06 05 00", bytes + "BP=5", "A=33");
        Checks.step("8A 46 00", bytes + "BP=5", "A=22");
        Checks.step("8A 86 00 00", bytes + "BP=5", "A=22");
        Checks.step("8A 46 05", bytes, "A=22");
        String[] codes = {"8A 00", "8A 01", "8A 04", "8A 05", "8A 07", "8A 02", "8A 03"};
        String[] states = {"SI=5", "DI=5", "SI=5", "DI=5", "B=5", "SI=5", "DI=5"};
        for (int i = 0; i < codes.length; i++) {
            Checks.step(codes[i], bytes + states[i], i < 5 ? "A=33" : "A=22");
            Checks.step("3E" + codes[i], bytes + states[i], "A=33");
            Checks.step("36" + codes[i], bytes + states[i], "A=22");
        }
    }

    private static void offsetsWithoutWhatIsAbove() {
        Checks.step("8D 00", "B=FFFF SI=1", "A=0");
        Checks.step("8D 00", "B=FFFF SI=0", "A=FFFF");
        Checks.step("8D 03", "BP=FFFF DI=FFFF", "A=FFFE");
        Checks.step("8D 83 FF FF", "BP=FFFF DI=FFFF", "A=FFFD");
        Checks.step("8D 40 80", "B=FFFF SI=FFFF", "A=FF7E");
        Checks.step("8D 44 FF", "SI=0", "A=FFFF");
        Checks.step("8D 44 80", "SI=7F", "A=FFFF");
        Checks.step("8D 44 80", "SI=80", "A=0");
        Checks.step("8D 44 7F", "SI=FF81", "A=0");
        Checks.step("8D 44 7F", "SI=FF80", "A=FFFF");
        Checks.step("8A 44 FF", "SI=0 [3FFFC]=00000077", "A=77");
        Checks.step("8A 42 01", "BP=FFFF SI=2 [20002]=77", "A=77");
    }

    /** 4 to 7 are upper halves as bytes, SP to DI as words. */
    private static void halvesOfRegisters() {
        String bytes = "A=1122 C=3344 D=5566 B=7788 SP=99AA BP=BBCC SI=DDEE DI=FF01";
        String[] names = {"A", "C", "D", "B"};
        int[] words = {0x1122, 0x3344, 0x5566, 0x7788};
        for (int r = 0; r < 4; r++) {
            Checks.step(String.format("%02X00", 0xB0 + r), bytes, names[r] + "=" + Integer.toHexString(words[r] & 0xFF00));
            Checks.step(String.format("%02XFF", 0xB0 + r), bytes, names[r] + "=" + Integer.toHexString(words[r] | 255));
            Checks.step(String.format("%02X00", 0xB4 + r), bytes, names[r] + "=" + Integer.toHexString(words[r] & 255));
            Checks.step(String.format("%02XFF", 0xB4 + r), bytes, names[r] + "=" + Integer.toHexString(words[r] | 0xFF00));
        }
        Checks.step("88 E0", bytes, "A=1111");
        Checks.step("89 E0", bytes, "A=99AA");
        Checks.step("88 F9", bytes, "C=3377");
        Checks.step("89 F9", bytes, "C=FF01");
        Checks.step("86 DF", bytes, "B=8877");
        Checks.step("86 E3", bytes, "A=8822 B=7711");
        Checks.step("86 FD", bytes, "C=7744 B=3388");
        Checks.step("87 DF", bytes, "B=FF01 DI=7788");
    }

    /** 83's b, 98, 99: 127 and 128, 32767 and 32768. */
    private static void signedBytes() {
        Checks.step("83 C8 7F", "", "A=7F F=0");
        Checks.step("83 C8 80", "", "A=FF80 F=80");
        Checks.step("81 C8 80 00", "", "A=80 F=0");
        Checks.step("80 C8 80", "", "A=80 F=80");
        Checks.step("82 C8 80", "", "A=80 F=80");
        Checks.step("83 C0 FF", "A=1", "A=0 F=55");
        Checks.step("83 E0 80", "A=1234", "A=1200 F=4");
        Checks.step("98", "A=7F", "A=7F");
        Checks.step("98", "A=80", "A=FF80");
        Checks.step("98", "A=FFFF F=FD5", "");
        Checks.step("98", "A=FF00", "A=0");
        Checks.step("99", "A=7FFF D=1", "D=0");
        Checks.step("99", "A=8000 D=1 F=FD5", "D=FFFF");
        Checks.step("99", "A=FF D=1", "D=0");
    }

    /** Segment r by its lowest two bits. */
    private static void segmentNumbers() {
        String[] names = {"E", "CODE", "STACK", "DATA"};
        String[] held = {"4000", "1000", "2000", "3000"};
        for (int r = 0; r < 8; r++) {
            Checks.step(String.format("8C%02X", 0xC3 + 8 * r), "B=1", "B=" + held[r % 4]);
            Checks.step(String.format("8E%02X", 0xC3 + 8 * r), "B=1234", names[r % 4] + "=1234");
            Checks.step(String.format("8C%02X", 0x04 + 8 * r), "", "[30000]=00" + held[r % 4].substring(0, 2));
            Checks.step(String.format("8E%02X", 0x04 + 8 * r), "[30000]=3412", names[r % 4] + "=1234");
        }
    }

    /** 8F, C6, C7 whatever r is. */
    private static void rThatDoesNotCount() {
        for (int r = 0; r < 8; r++) {
            Checks.step(String.format("8F%02X", 0xC3 + 8 * r), "[20100]=3412", "B=1234 SP=102");
            Checks.step(String.format("8F%02X", 0x04 + 8 * r), "[20100]=3412", "[30000]=3412 SP=102");
            Checks.step(String.format("C6%02X77", 0xC3 + 8 * r), "B=FFFF", "B=FF77");
            Checks.step(String.format("C7%02X3412", 0xC3 + 8 * r), "B=FFFF", "B=1234");
            Checks.step(String.format("C6%02X77", 0x04 + 8 * r), "", "[30000]=7700");
            Checks.step(String.format("C7%02X3412", 0x04 + 8 * r), "", "[30000]=3412");
        }
    }

    /** SP becomes 2 less, then the word goes there; SP itself as it is then. */
    private static void pushed() {
        Checks.step("54", "SP=100", "SP=FE [200FE]=FE00");
        Checks.step("54", "SP=2", "SP=0 [20000]=0000 [2FFFF]=00");
        Checks.step("54", "SP=1", "SP=FFFF [2FFFF]=FF [20000]=FF");
        Checks.step("54", "SP=0", "SP=FFFE [2FFFE]=FEFF");
        Checks.step("FF F4", "SP=0", "SP=FFFE [2FFFE]=FEFF");
        Checks.step("FF FC", "SP=1", "SP=FFFF [2FFFF]=FF [20000]=FF");
        Checks.step("FF 76 00", "BP=FE [200FE]=3412", "SP=FE [200FE]=3412");
        Checks.step("FF 76 FF", "BP=100 [200FE]=993412", "SP=FE [200FE]=341212");
        Checks.step("16", "", "SP=FE [200FE]=0020");
        Checks.step("9C", "SP=1 F=0", "SP=FFFF [2FFFF]=02 [20000]=F0");
        Checks.step("9C", "F=FD5", "SP=FE [200FE]=D7FF");
    }

    /** The word is read, SP becomes 2 more, then the word is kept where it goes. */
    private static void popped() {
        Checks.step("5C", "[20100]=3412", "SP=1234");
        Checks.step("5C", "SP=FFFE [2FFFC]=0000FFFF", "SP=FFFF");
        Checks.step("8F C4", "[20100]=3412", "SP=1234");
        Checks.step("58", "SP=FFFE [2FFFC]=00003412", "A=1234 SP=0");
        Checks.step("58", "SP=FFFF [2FFFC]=00000034 [20000]=12", "A=1234 SP=1");
        Checks.step("8F 46 00", "BP=100 [20100]=34129999", "SP=102 [20100]=34129999");
        Checks.step("8F 46 01", "BP=100 [20100]=34129999", "SP=102 [20100]=34341299");
        Checks.step("8F 46 02", "BP=100 [20100]=34129999", "SP=102 [20100]=34123412");
        Checks.step("17", "[20100]=3412", "STACK=1234 SP=102");
        Checks.step("9D", "SP=FFFF [2FFFC]=000000FF [20000]=FF", "SP=1 F=FD5");
    }

    /** IP goes on from behind the code, without what is above 16 bits. */
    private static void jumpsOverTheEdges() {
        String[] short8 = {"71", "EB", "E3", "E2"};
        for (String code : short8) {
            String c = code.equals("E2") ? "C=5 " : "";
            String less = code.equals("E2") ? "C=4 " : "";
            jump(code + "00", 0x10, c, less + "IP=12");
            jump(code + "7F", 0x10, c, less + "IP=91");
            jump(code + "80", 0x10, c, less + "IP=FF92");
            jump(code + "EE", 0x10, c, less + "IP=0");
            jump(code + "ED", 0x10, c, less + "IP=FFFF");
            jump(code + "7F", 0xFF7E, c, less + "IP=FFFF");
            jump(code + "7F", 0xFF7F, c, less + "IP=0");
            jump(code + "00", 0xFFFE, c, less + "IP=0");
            jump(code + "FF", 0xFFFE, c, less + "IP=FFFF");
        }
        jump("E9 00 00", 0x10, "", "IP=13");
        jump("E9 ED FF", 0x10, "", "IP=0");
        jump("E9 EC FF", 0x10, "", "IP=FFFF");
        jump("E9 FF 7F", 0x10, "", "IP=8012");
        jump("E9 00 80", 0x10, "", "IP=8013");
        jump("E9 FF FF", 0x10, "", "IP=12");
        jump("E9 0C 00", 0xFFF0, "", "IP=FFFF");
        jump("E9 0D 00", 0xFFF0, "", "IP=0");
        jump("EA FF FF FF FF", 0x10, "", "IP=FFFF CODE=FFFF");
        jump("EA 00 00 00 00", 0x10, "", "IP=0 CODE=0");
        jump("FF E0", 0x10, "A=FFFF", "IP=FFFF");
    }

    private static void jump(String code, int ip, String before, String after) {
        MachineCore x = new MachineCore();
        x.set(9, 0x1000);
        x.set(12, ip);
        int[] bytes = Checks.bytes(code);
        for (int i = 0; i + 1 < bytes.length && i < 4; i += 2) {
            x.write(0x10000 + ip + i, bytes[i] << 24 | bytes[i + 1] << 16
                    | (i + 2 < bytes.length ? bytes[i + 2] << 8 : 0));
        }
        if (bytes.length == 5) {
            Checks.put(x, 0x10000 + ip, code);
        }
        Checks.prepare(x, before);
        int steps = x.run(1);
        Checks.due(code + " from " + ip, steps, MachineCore.DONE);
        for (String part : after.split(" ")) {
            String[] two = part.split("=");
            int due = Integer.parseInt(two[1], 16);
            Checks.due(code + " from " + ip + " " + two[0], x.get(Checks.numberOf(two[0])), due);
        }
    }

    /** What is pushed is the place behind the code, which may be 0. */
    private static void callsOverTheEdges() {
        Checks.step("E8 00 00", "", "SP=FE [200FE]=1300");
        Checks.step("E8 EC FF", "", "SP=FE IP=FFFF [200FE]=1300");
        Checks.step("E8 ED FF", "", "SP=FE IP=0 [200FE]=1300");
        MachineCore x = Checks.machine("");
        x.set(12, 0xFFFD);
        Checks.put(x, 0x1FFFC, "90E80500");
        x.run(1);
        Checks.due("IP", x.get(12), 5);
        Checks.due("IP pushed is 0", x.byteAt(0x200FE) + x.byteAt(0x200FF), 0);
        MachineCore y = Checks.machine("");
        y.set(12, 0xFFFE);
        Checks.put(y, 0x1FFFC, "9090E805");
        y.run(1);
        Checks.due("IP", y.get(12), 6);
        Checks.due("IP pushed is 1", y.byteAt(0x200FE), 1);
        MachineCore z = Checks.machine("");
        z.set(12, 0xFFFF);
        Checks.put(z, 0x1FFFC, "909090CC");
        z.run(1);
        Checks.due("IP pushed by CC is 0", z.byteAt(0x200FA) + z.byteAt(0x200FB), 0);
    }

    /** SP goes on by n, without what is above 16 bits. */
    private static void returnsOverTheEdges() {
        String word = "[20100]=34127856 ";
        String[] near = {"C0", "C2"};
        for (String code : near) {
            Checks.step(code + "0000", word, "IP=1234 SP=102");
            Checks.step(code + "FDFE", word, "IP=1234 SP=FFFF");
            Checks.step(code + "FEFE", word, "IP=1234 SP=0");
            Checks.step(code + "FFFF", word, "IP=1234 SP=101");
        }
        String[] farther = {"C8", "CA"};
        for (String code : farther) {
            Checks.step(code + "0000", word, "IP=1234 CODE=5678 SP=104");
            Checks.step(code + "FBFE", word, "IP=1234 CODE=5678 SP=FFFF");
            Checks.step(code + "FCFE", word, "IP=1234 CODE=5678 SP=0");
            Checks.step(code + "FFFF", word, "IP=1234 CODE=5678 SP=103");
        }
        Checks.step("C3", "SP=FFFF [2FFFC]=00000034 [20000]=12", "IP=1234 SP=1");
        Checks.step("CB", "SP=FFFE [2FFFC]=00003412 [20000]=7856", "IP=1234 CODE=5678 SP=2");
        Checks.step("CF", "SP=FFFC [2FFFC]=34127856 [20000]=FFFF", "IP=1234 CODE=5678 SP=2 F=FD5");
    }

    /** C becomes 1 less before it is looked at, 65535 behind 0; no flags. */
    private static void loopsAtTheEdges() {
        String[] codes = {"E0", "E1", "E2"};
        String[] zero = {"F=F95", "F=40", "F=FD5"};
        String[] against = {"F=FD5", "F=F95", ""};
        for (int i = 0; i < 3; i++) {
            Checks.step(codes[i] + "10", zero[i] + " C=2", "C=1 IP=22");
            Checks.step(codes[i] + "10", zero[i] + " C=1", "C=0");
            Checks.step(codes[i] + "10", zero[i] + " C=0", "C=FFFF IP=22");
            Checks.step(codes[i] + "10", zero[i] + " C=100", "C=FF IP=22");
            if (i < 2) {
                Checks.step(codes[i] + "10", against[i] + " C=2", "C=1");
                Checks.step(codes[i] + "10", against[i] + " C=1", "C=0");
                Checks.step(codes[i] + "10", against[i] + " C=0", "C=FFFF");
            }
        }
        Checks.step("E3 10", "C=0 F=FD5", "IP=22");
        Checks.step("E3 10", "C=1", "");
        Checks.step("E3 10", "C=FF00", "");
        Checks.step("E3 10", "C=FFFF", "");
    }

    private static void stringsOverTheEdges() {
        Checks.step("A4", "SI=FFFF DI=FFFE [3FFFC]=00000077", "SI=0 DI=FFFF [4FFFE]=77");
        Checks.step("A5", "SI=FFFF DI=FFFE [3FFFC]=00000077 [30000]=88", "SI=1 DI=0 [4FFFE]=7788");
        Checks.step("A5", "SI=FFFE DI=FFFF [3FFFC]=00007788", "SI=0 DI=1 [4FFFF]=77 [40000]=88");
        Checks.step("A4", "F=400 [30000]=77", "SI=FFFF DI=FFFF [40000]=77");
        Checks.step("A5", "F=400 SI=1 DI=1 [30000]=007788", "SI=FFFF DI=FFFF [40001]=7788");
        Checks.step("A5", "F=400 SI=2 DI=0 [30000]=00007788", "SI=0 DI=FFFE [40000]=7788");
        Checks.step("AA", "A=77 DI=FFFF", "DI=0 [4FFFF]=77 [40000]=00");
        Checks.step("AB", "A=1234 DI=FFFF", "DI=1 [4FFFF]=34 [40000]=12");
        Checks.step("AB", "A=1234 DI=FFFE", "DI=0 [4FFFE]=3412 [40000]=00");
        Checks.step("AC", "SI=FFFF [3FFFC]=00000077", "SI=0 A=77");
        Checks.step("AD", "F=400 SI=0 [30000]=3412", "SI=FFFE A=1234");
        Checks.step("A6", "SI=FFFF DI=0 [3FFFC]=00000077 [40000]=77", "SI=0 DI=1 F=44");
        Checks.step("A7", "SI=FFFF DI=0 [3FFFC]=00000034 [30000]=12 [40000]=3412", "SI=1 DI=2 F=44");
        Checks.step("AE", "A=77 DI=FFFF [4FFFC]=00000077", "DI=0 F=44");
        Checks.step("A6", "[30000]=80 [40000]=01", "SI=1 DI=1 F=810");
        Checks.step("A6", "[30000]=80 [40000]=00", "SI=1 DI=1 F=80");
        Checks.step("A7", "[30000]=8000 [40000]=0100", "SI=2 DI=2 F=10");
        Checks.step("AE", "A=7780 [40000]=01", "DI=1 F=810");
        Checks.step("AE", "A=7780", "DI=1 F=80");
        Checks.step("AF", "A=80", "DI=2 F=0");
        Checks.step("AF", "F=400 A=1234 DI=0 [40000]=3412", "DI=FFFE F=444");
        Checks.step("F3 AA", "A=77 C=4 DI=FFFE", "C=0 DI=2 [4FFFE]=77 [4FFFF]=77 [40000]=777700");
        Checks.step("F3 AB", "A=1234 C=2 DI=FFFD", "C=0 DI=1 [4FFFD]=341234 [40000]=1200");
    }

    /** As long as C is not 0. */
    private static void repeatsAtTheEdges() {
        String[] codes = {"A4", "A5", "A6", "A7", "AA", "AB", "AC", "AD", "AE", "AF"};
        String[] repeats = {"F2", "F3"};
        for (String repeat : repeats) {
            for (String code : codes) {
                MachineCore none = Checks.machine(repeat + code);
                none.set(13, 0xFD5 & ~0x100);
                none.run(1);
                Checks.due(code + " with C 0 leaves FLAGS", none.get(13), 0xED5);
                Checks.due(code + " with C 0 leaves SI", none.get(6), 0);
                Checks.due(code + " with C 0 leaves DI", none.get(7), 0);
                Checks.due(code + " with C 0 leaves C", none.get(1), 0);
                Checks.due(code + " with C 0 is a step", none.count(0), 1);
                Checks.due(code + " with C 0 makes no page", none.count(1), 1);
                Checks.due(code + " with C 0 is no repetition", none.count(3), 0);
                MachineCore one = Checks.machine(repeat + code);
                one.set(1, 1);
                one.run(1);
                Checks.due(code + " with C 1", one.get(1), 0);
                Checks.due(code + " with C 1 goes on", one.get(12), 0x12);
                Checks.due(code + " with C 1 is one repetition", one.count(3), 1);
            }
        }
        Checks.step("AA", "C=0 A=7", "DI=1 [40000]=0700");
        Checks.step("F3 AA", "C=2 A=7 F=FD5", "C=0 DI=FFFE [40000]=07 [4FFFF]=07");
    }

    /** A6, A7, AE, AF end when ZERO is not as F3 (set) or F2 (not set) wants; the others do not. */
    private static void repeatsThatEndByZero() {
        Checks.step("F3 AE", "C=3 A=1 [40000]=010101", "C=0 DI=3 F=44");
        Checks.step("F3 AE", "C=3 A=1 [40000]=010100", "C=0 DI=3 F=0");
        Checks.step("F3 AE", "C=3 A=1 [40000]=010001", "C=1 DI=2 F=0");
        Checks.step("F3 AE", "C=3 A=1 [40000]=000101", "C=2 DI=1 F=0");
        Checks.step("F2 AE", "C=3 A=1 [40000]=000001", "C=0 DI=3 F=44");
        Checks.step("F2 AE", "C=3 A=1 [40000]=000100", "C=1 DI=2 F=44");
        Checks.step("F2 AE", "C=3 A=1 [40000]=010000", "C=2 DI=1 F=44");
        Checks.step("F3 A6", "C=2 F=0 [30000]=0102 [40000]=0102", "C=0 SI=2 DI=2 F=44");
        Checks.step("F2 A7", "C=2 F=40 [30000]=01020304 [40000]=01030304", "C=0 SI=4 DI=4 F=44");
        Checks.step("F3 AF", "C=2 F=0 A=101 [40000]=01010201", "C=0 DI=4 F=95");
        Checks.step("F3 AE", "C=2 F=0 A=1 [40000]=0101", "C=0 DI=2 F=44");
        Checks.step("F2 A4", "C=2 F=40 [30000]=0102", "C=0 SI=2 DI=2 [40000]=0102");
        Checks.step("F3 AC", "C=2 F=0 [30000]=0102", "C=0 SI=2 A=2");
        Checks.step("F2 AA", "C=2 F=40 A=5", "C=0 DI=2 [40000]=0505");
    }

    private static void repeated(String code, int c, int behind, int ip, int times) {
        MachineCore x = Checks.machine(code);
        x.set(1, c);
        x.set(7, 0x8000);
        x.run(1);
        String what = code + " with C " + c;
        Checks.due(what + " C", x.get(1), behind);
        Checks.due(what + " IP", x.get(12), ip);
        Checks.due(what + " repetitions", x.count(3), times);
        Checks.due(what + " steps", x.count(0), 1);
    }

    /** After 64 times in one step, if it would go on, IP is where the code begins with its prefixes. */
    private static void repeatsOfSixtyFour() {
        String[] codes = {"A4", "A5", "AA", "AB", "AC", "AD"};
        for (String code : codes) {
            repeated("F3" + code, 63, 0, 0x12, 63);
            repeated("F2" + code, 64, 0, 0x12, 64);
            repeated("F3" + code, 65, 1, 0x10, 64);
            repeated("F2" + code, 128, 64, 0x10, 64);
            repeated("26F3F3" + code, 65, 1, 0x10, 64);
            repeated("26F3F3" + code, 64, 0, 0x14, 64);
            repeated("F3" + code, 65535, 65471, 0x10, 64);
        }
        String[] comparing = {"A6", "A7", "AE", "AF"};
        for (String code : comparing) {
            repeated("F3" + code, 63, 0, 0x12, 63);
            repeated("F3" + code, 64, 0, 0x12, 64);
            repeated("F3" + code, 65, 1, 0x10, 64);
            repeated("F2" + code, 65, 64, 0x12, 1);
        }
        Checks.step("F2 AE", "C=41 [4003F]=00 A=1 [4003C]=00000001", "C=1 DI=40 F=44");
        Checks.step("F2 AE", "C=41 A=1 [40040]=01", "C=1 DI=40 IP=10 F=0");
        Checks.steps(2, "F2 AE", "C=41 A=1 [40040]=01", "C=0 DI=41 F=44");
        Checks.steps(2, "F2 AE", "C=42 A=1 [40040]=01", "C=1 DI=41 F=44");
        Checks.step("F3 AE", "C=41 [4003C]=00000001", "C=1 DI=40 F=95");
        Checks.steps(2, "F3 AA", "C=80 A=7", "C=0 DI=80");
        Checks.steps(3, "F3 AA", "C=81 A=7", "C=0 DI=81 [40080]=0700");
        MachineCore x = Checks.machine("F3 AA F4");
        x.set(1, 65535);
        Checks.due("1024 steps of one string", x.run(500) + x.run(500) + x.run(24), 0);
        Checks.due("C", x.get(1), 0);
        Checks.due("IP", x.get(12), 0x12);
        Checks.due("repetitions", x.count(3), 65535);
        Checks.due("HALT", x.run(2), MachineCore.HALTED);
    }

    /** Both words are read before r changes; r may be what e was found by. */
    private static void loadsOfSegments() {
        Checks.step("C4 1F", "B=10 [30010]=34127856", "B=1234 E=5678");
        Checks.step("C5 1F", "B=10 [30010]=34127856", "B=1234 DATA=5678");
        Checks.step("C4 24", "SI=10 [30010]=34127856", "SP=1234 E=5678");
        Checks.step("C5 36 FE FF", "[3FFFC]=00003412 [30000]=7856", "SI=1234 DATA=5678");
        Checks.step("36 C4 3E FF FF", "[2FFFC]=00000034 [20000]=127856", "DI=1234 E=5678");
    }

    private static void tableAtTheEdge() {
        Checks.step("D7", "A=12FF B=FF00 [3FFFC]=00000077", "A=1277");
        Checks.step("D7", "A=12FF B=FF01 [30000]=77", "A=1277");
        Checks.step("D7", "A=1200 B=FFFF [3FFFC]=00000077", "A=1277");
        Checks.step("36 D7", "A=12FF B=FFFF [200FC]=00007799", "A=1277");
        Checks.step("D6", "A=1234 F=1", "A=12FF");
        Checks.step("D6", "A=1234 F=FD4", "A=1200");
        Checks.step("D6", "A=1234 F=FD5", "A=12FF");
    }

    /** Behind port 255 comes port 0; a port's number in D counts by its lowest eight bits. */
    private static void portsAtTheEdge() {
        int[] numbers = {0, 1, 127, 128, 254, 255, 256, 511, 0xFF00, 0xFFFE, 0xFFFF};
        for (int d : numbers) {
            int p = d & 255;
            for (int wide = 0; wide < 2; wide++) {
                MachineCore x = Checks.machine(String.format("%02X%02X%02X%02X", 0xE6 + wide, p, 0xEC + wide, 0xEE + wide));
                x.setPort(p + 1, 0x99);
                x.set(2, d);
                x.set(0, 0x1234);
                x.run(1);
                Checks.due("port " + p, x.port(p), 0x34);
                Checks.due("the next one", x.port(p + 1), wide == 1 ? 0x12 : 0x99);
                x.set(0, 0x5555);
                x.run(1);
                Checks.due("back to A", x.get(0), wide == 1 ? 0x1234 : 0x5534);
                x.set(0, 0xABCD);
                x.run(1);
                Checks.due("port by D " + d, x.port(p), 0xCD);
                Checks.due("the next one by D", x.port(p + 1), wide == 1 ? 0xAB : 0x99);
                Checks.due("D stays", x.get(2), d);
            }
        }
        Checks.step("E5 FF", "A=1234", "A=0");
        Checks.step("E4 00", "A=1234", "A=1200");
    }

    private static void oneFlagEach() {
        String[] codes = {"F8", "F9", "FA", "FB", "FC", "FD"};
        int[] flags = {1, 1, 0x200, 0x200, 0x400, 0x400};
        for (int i = 0; i < 6; i++) {
            for (int before = 0; before < 2; before++) {
                int all = before * 0xED5;
                int due = i % 2 == 0 ? all & ~flags[i] : all | flags[i];
                Checks.step(codes[i], "F=" + Integer.toHexString(all), "F=" + Integer.toHexString(due));
            }
        }
        Checks.step("F5", "F=0", "F=1");
        Checks.step("F5", "F=1", "F=0");
        Checks.step("F5", "F=ED4", "F=ED5");
    }

    /** A code that has no i, no address or no prefix takes none of the code's before it. */
    private static void nothingIsLeftOfTheCodeBefore() {
        int[] sets = {0, 0xCD5, 0x800, 0x41};
        for (int f : sets) {
            String flags = "F=" + Integer.toHexString(f);
            Checks.steps(2, "B0 77 50", flags, "A=77 SP=FE [200FE]=7700");
            Checks.steps(2, "B0 77 5B", flags + " [20100]=3412", "A=77 B=1234 SP=102");
            Checks.steps(2, "C6 04 77 90", flags, "[30000]=7700");
            Checks.steps(2, "B8 34 12 C3", flags + " [20100]=7856", "A=1234 IP=5678 SP=102");
            Checks.steps(2, "B8 34 12 CB", flags + " [20100]=78563412", "A=1234 IP=5678 CODE=1234 SP=104");
            Checks.steps(2, "B8 34 12 EC", flags, "A=1200");
        }
        Checks.steps(2, "B8 34 12 C4 1C", "[30000]=78563412", "A=1234 B=5678 E=1234 [30000]=78563412");
        Checks.steps(2, "B8 34 12 C5 1C", "[30000]=78563412", "A=1234 B=5678 DATA=1234 [30000]=78563412");
        Checks.steps(2, "C6 04 77 8D 05", "DI=5", "A=5 [30000]=77 [30005]=00");
        Checks.steps(2, "26 88 04 88 25", "A=1122 DI=5", "[40000]=22 [30005]=11");
        Checks.steps(2, "CE 90", "F=4D5", "");
        Checks.steps(2, "F3 90 AA", "C=5 A=7", "DI=1 [40000]=0700");
        Checks.steps(2, "8A 05 88 C4", "DI=5 [30005]=77", "A=7777");
    }
}

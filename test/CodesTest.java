/** Promise 9: what the codes do, each by itself. */
public final class CodesTest {
    public static void main(String[] args) {
        places();
        operations();
        stack();
        segments();
        moves();
        exchanges();
        jumps();
        calls();
        loops();
        flags();
        shifts();
        products();
        quotients();
        adjustments();
        lastOnes();
        whatIsWritten();
        Checks.finish();
    }

    /** Each way to find e; AL becomes the byte there. */
    private static void places() {
        String at = "B=1000 BP=2000 SI=300 DI=40 A=5500 ";
        Checks.step("8A 00", at + "[31300]=77", "A=5577");
        Checks.step("8A 01", at + "[31040]=77", "A=5577");
        Checks.step("8A 02", at + "[22300]=77", "A=5577");
        Checks.step("8A 03", at + "[22040]=77", "A=5577");
        Checks.step("8A 04", at + "[30300]=77", "A=5577");
        Checks.step("8A 05", at + "[30040]=77", "A=5577");
        Checks.step("8A 06 34 12", at + "[31234]=77", "A=5577");
        Checks.step("8A 07", at + "[31000]=77", "A=5577");
        Checks.step("8A 40 7F", at + "[3137F]=77", "A=5577");
        Checks.step("8A 41 80", at + "[30FC0]=77", "A=5577");
        Checks.step("8A 42 FF", at + "[222FF]=77", "A=5577");
        Checks.step("8A 43 01", at + "[22041]=77", "A=5577");
        Checks.step("8A 44 01", at + "[30301]=77", "A=5577");
        Checks.step("8A 45 80", at + "[3FFC0]=77", "A=5577");
        Checks.step("8A 46 00", at + "[22000]=77", "A=5577");
        Checks.step("8A 47 10", at + "[31010]=77", "A=5577");
        Checks.step("8A 80 00 F0", at + "[30300]=77", "A=5577");
        Checks.step("8A 81 34 12", at + "[32274]=77", "A=5577");
        Checks.step("8A 82 34 12", at + "[23534]=77", "A=5577");
        Checks.step("8A 83 34 12", at + "[23274]=77", "A=5577");
        Checks.step("8A 84 34 12", at + "[31534]=77", "A=5577");
        Checks.step("8A 85 FF FF", at + "[3003F]=77", "A=5577");
        Checks.step("8A 86 FF FF", at + "[21FFF]=77", "A=5577");
        Checks.step("8A 87 00 80", at + "[39000]=77", "A=5577");
        Checks.step("8A 00", "B=FFFF SI=FFFF [3FFFC]=00007700", "A=77");
        Checks.step("8D 42 FE", "BP=1 SI=0 A=77", "A=FFFF");
        Checks.step("8D 36 34 12", "SI=9", "SI=1234");
        Checks.step("26 8D A7 00 01", "B=23", "SP=123");
        String bytes = "A=1122 C=3344 D=5566 B=7788 ";
        Checks.step("8A C1", bytes, "A=1144");
        Checks.step("8A C4", bytes, "A=1111");
        Checks.step("8A E0", bytes, "A=2222");
        Checks.step("8A FA", bytes, "B=6688");
        Checks.step("8A F7", bytes, "D=7766");
        Checks.step("8A CD", bytes, "C=3333");
        Checks.step("8B EC", bytes, "BP=100");
        Checks.step("8B F9", bytes, "DI=3344");
        Checks.step("8B 00", "B=FFFF [3FFFC]=00000077 [30000]=88 DI=9", "A=8877");
    }

    private static void operations() {
        Checks.step("00 C8", "A=12FF C=1", "A=1200 F=55");
        Checks.step("01 C8", "A=12FF C=1", "A=1300 F=14");
        Checks.step("01 07", "A=7FFF B=8 [30008]=0100", "[30008]=0080 F=894");
        Checks.step("02 07", "A=0 [30000]=05", "A=5 F=4");
        Checks.step("02 07", "A=FF01 [30000]=02FF", "A=FF03 F=4");
        Checks.step("03 07", "A=101 [30000]=0101", "A=202 F=0");
        Checks.step("2A 07", "A=FF03 [30000]=02FF", "A=FF01 F=0");
        Checks.step("03 D9", "B=FFFF C=FFFF", "B=FFFE F=91");
        Checks.step("04 80", "A=80", "A=0 F=845");
        Checks.step("05 00 80", "A=8000", "A=0 F=845");
        Checks.step("08 C8", "A=F0 C=F F=811", "A=FF F=84");
        Checks.step("0D 00 80", "A=1 F=811", "A=8001 F=80");
        Checks.step("10 C8", "A=FE C=1 F=1", "A=0 F=55");
        Checks.step("11 C8", "A=FE C=1 F=0", "A=FF F=4");
        Checks.step("15 FF FF", "A=0 F=1", "A=0 F=55");
        Checks.step("18 C8", "A=0 C=0 F=1", "A=FF F=95");
        Checks.step("1D FF FF", "A=0 F=1", "A=0 F=55");
        Checks.step("24 0F", "A=FFFF F=811", "A=FF0F F=4");
        Checks.step("29 C8", "A=8000 C=1", "A=7FFF F=814");
        Checks.step("2C 01", "A=1200", "A=12FF F=95");
        Checks.step("31 C0", "A=1234 F=8D1", "A=0 F=44");
        Checks.step("38 C8", "A=5 C=6", "F=95");
        Checks.step("3D 05 00", "A=5", "F=44");
        Checks.step("3A 07", "A=80 [30000]=01", "F=810");
        Checks.step("80 C0 01", "A=1FF", "A=100 F=55");
        Checks.step("80 FC 01", "A=1FF", "F=44");
        Checks.step("81 C1 00 80", "C=1", "C=8001 F=80");
        Checks.step("82 E9 01", "C=100", "C=1FF F=95");
        Checks.step("83 E9 FF", "C=100", "C=101 F=11");
        Checks.step("83 0F 80", "[30000]=0100", "[30000]=81FF F=84");
        Checks.step("83 D0 00", "A=FFFF F=1", "A=0 F=55");
        Checks.step("83 F8 FF", "A=FFFF", "F=44");
        Checks.step("80 07 01", "[30000]=FFFF", "[30000]=00FF F=55");
        Checks.step("84 C8", "A=F0 C=F F=811", "F=44");
        Checks.step("85 07", "A=8001 [30000]=0080 F=811", "F=84");
        Checks.step("A8 80", "A=80 F=811", "F=80");
        Checks.step("A9 00 01", "A=80 F=811", "F=44");
        Checks.step("A9 00 80", "A=8000 F=811", "F=84");
        Checks.step("A8 00", "A=FFFF F=811", "F=44");
        Checks.step("40", "A=FFFF F=1", "A=0 F=55");
        Checks.step("44", "F=1", "SP=101 F=1");
        Checks.step("47", "DI=7FFF", "DI=8000 F=894");
        Checks.step("48", "A=0 F=0", "A=FFFF F=94");
        Checks.step("4D", "BP=8000 F=1", "BP=7FFF F=815");
        Checks.step("FE C4", "A=FF11 F=0", "A=11 F=54");
        Checks.step("FE C8", "A=1 F=1", "A=0 F=45");
        Checks.step("FE 07", "[30000]=FFFF", "[30000]=00FF F=54");
        Checks.step("FF 07", "[30000]=FFFF", "[30000]=0000 F=54");
        Checks.step("FF 0F", "[30000]=0000", "[30000]=FFFF F=94");
        Checks.step("FF C4", "", "SP=101 F=0");
        Checks.step("F6 C0 0F", "A=F0 F=811", "F=44");
        Checks.step("F6 0F 80", "[30000]=80 F=811", "F=80");
        Checks.step("F7 C0 00 80", "A=8000 F=811", "F=84");
        Checks.step("F7 C8 00 80", "A=8000 F=811", "F=84");
        Checks.step("F6 D0", "A=1234 F=FD5", "A=12CB");
        Checks.step("F7 D0", "A=1234 F=0", "A=EDCB");
        Checks.step("F7 17", "[30000]=3412", "[30000]=CBED");
        Checks.step("F6 D8", "A=1200", "A=1200 F=44");
        Checks.step("F6 D8", "A=1280", "A=1280 F=881");
        Checks.step("F7 D9", "C=1", "C=FFFF F=95");
        Checks.step("F6 1F", "[30000]=01", "[30000]=FF F=95");
    }

    private static void stack() {
        Checks.step("50", "A=1234", "SP=FE [200FE]=3412");
        Checks.step("57", "DI=1234", "SP=FE [200FE]=3412");
        Checks.step("54", "", "SP=FE [200FE]=FE00");
        Checks.step("FF F4", "", "SP=FE [200FE]=FE00");
        Checks.step("FF FC", "", "SP=FE [200FE]=FE00");
        Checks.step("FF F0", "A=1234", "SP=FE [200FE]=3412");
        Checks.step("FF 37", "[30000]=3412", "SP=FE [200FE]=3412");
        Checks.step("FF 3F", "[30000]=3412", "SP=FE [200FE]=3412");
        Checks.step("50", "SP=1 A=1234", "SP=FFFF [2FFFF]=34 [20000]=12");
        Checks.step("50", "SP=0 A=1234", "SP=FFFE [2FFFE]=3412");
        Checks.step("58", "[20100]=3412", "A=1234 SP=102");
        Checks.step("5C", "[20100]=3412", "SP=1234");
        Checks.step("5F", "SP=FFFF [2FFFC]=00000034 [20000]=12", "DI=1234 SP=1");
        Checks.step("8F C0", "[20100]=3412", "A=1234 SP=102");
        Checks.step("8F C4", "[20100]=3412", "SP=1234");
        Checks.step("8F F8", "[20100]=3412", "A=1234 SP=102");
        Checks.step("8F 07", "B=8 [20100]=3412", "SP=102 [30008]=3412");
        Checks.step("9C", "F=FD5", "SP=FE [200FE]=D7FF");
        Checks.step("9C", "F=0", "SP=FE [200FE]=02F0");
        Checks.step("9D", "[20100]=FFFF", "SP=102 F=FD5");
        Checks.step("9D", "F=FD5 [20100]=2AF0", "SP=102 F=0");
    }

    private static void segments() {
        Checks.step("06", "E=1234", "SP=FE [200FE]=3412");
        Checks.step("0E", "", "SP=FE [200FE]=0010");
        Checks.step("16", "", "SP=FE [200FE]=0020");
        Checks.step("1E", "DATA=1234", "SP=FE [200FE]=3412");
        Checks.step("07", "[20100]=3412", "SP=102 E=1234");
        Checks.step("0F", "[20100]=3412", "SP=102 CODE=1234");
        Checks.step("17", "[20100]=3412", "SP=102 STACK=1234");
        Checks.step("1F", "[20100]=3412", "SP=102 DATA=1234");
        Checks.step("8C C0", "E=1234", "A=1234");
        Checks.step("8C C9", "", "C=1000");
        Checks.step("8C D2", "", "D=2000");
        Checks.step("8C DB", "", "B=3000");
        Checks.step("8C E4", "E=1234", "SP=1234");
        Checks.step("8C FF", "", "DI=3000");
        Checks.step("8C 1F", "", "[30000]=0030");
        Checks.step("8E C0", "A=1234", "E=1234");
        Checks.step("8E C9", "C=1234", "CODE=1234");
        Checks.step("8E D2", "D=1234", "STACK=1234");
        Checks.step("8E DB", "B=1234", "DATA=1234");
        Checks.step("8E EC", "", "CODE=100");
        Checks.step("8E 27", "[30000]=3412", "E=1234");
        Checks.step("8E 3F", "[30000]=3412", "DATA=1234");
        Checks.step("C4 07", "[30000]=34127856", "A=1234 E=5678");
        Checks.step("C5 1F", "[30000]=34127856", "B=1234 DATA=5678");
        Checks.step("26 C5 27", "B=FFFE [4FFFC]=00003412 [40000]=7856", "SP=1234 DATA=5678");
        Checks.step("C4 76 01", "BP=4 [20005]=34127856", "SI=1234 E=5678");
    }

    private static void moves() {
        Checks.step("88 C4", "A=1234", "A=3434");
        Checks.step("88 27", "A=1234 [30000]=FFFF", "[30000]=12FF");
        Checks.step("89 07", "A=1234", "[30000]=3412");
        Checks.step("8B 07", "[30000]=3412", "A=1234");
        Checks.step("89 C4", "A=1234", "SP=1234");
        Checks.step("A0 34 12", "A=5500 [31234]=77", "A=5577");
        Checks.step("A1 34 12", "A=5500 [31234]=7788", "A=8877");
        Checks.step("A2 34 12", "A=5577 [31234]=0101", "[31234]=7701");
        Checks.step("A3 34 12", "A=5577 [31234]=0101", "[31234]=7755");
        for (int r = 0; r < 8; r++) {
            String name = "A C D B SP BP SI DI".split(" ")[r];
            Checks.step(String.format("%02X3412", 0xB8 + r), "F=FD5", name + "=1234");
        }
        Checks.step("B0 77", "A=1234", "A=1277");
        Checks.step("B3 77", "B=1234", "B=1277");
        Checks.step("B4 77", "A=1234", "A=7734");
        Checks.step("B5 77", "C=1234", "C=7734");
        Checks.step("B7 77", "B=1234", "B=7734");
        Checks.step("C6 07 77", "", "[30000]=7700");
        Checks.step("C6 3F 77", "", "[30000]=7700");
        Checks.step("C6 C4 77", "A=1234", "A=7734");
        Checks.step("C7 47 04 34 12", "", "[30004]=3412");
        Checks.step("C7 FC 34 12", "", "SP=1234");
        Checks.step("D7", "A=12FF B=FFFF [300FC]=00007700", "A=1277");
        Checks.step("D7", "A=1202 B=FFFF [30001]=77", "A=1277");
        Checks.step("98", "A=1280", "A=FF80");
        Checks.step("98", "A=FF7F", "A=7F");
        Checks.step("99", "A=8000 D=12", "D=FFFF");
        Checks.step("99", "A=7FFF D=12", "D=0");
    }

    private static void exchanges() {
        Checks.step("86 07", "A=1234 [30000]=5566", "A=1255 [30000]=3466");
        Checks.step("87 07", "A=1234 [30000]=5566", "A=6655 [30000]=3412");
        Checks.step("86 C4", "A=1234", "A=3412");
        Checks.step("87 DC", "B=1234", "B=100 SP=1234");
        Checks.step("87 1F", "B=10 [30010]=5566", "B=6655 [30010]=1000");
        Checks.step("90", "A=1234", "");
        Checks.step("91", "A=1234 C=5678", "A=5678 C=1234");
        Checks.step("94", "A=1234", "A=100 SP=1234");
        Checks.step("97", "A=1234 DI=5678", "A=5678 DI=1234");
    }

    private static void jumps() {
        int[] sets = {0x800, 1, 0x40, 0x41, 0x80, 4, 0x880, 0x840, 0, 0xFD5, 0x8C0, 0xC0};
        for (int f : sets) {
            boolean c = (f & 1) != 0;
            boolean z = (f & 64) != 0;
            boolean less = (f & 128) != 0 != ((f & 2048) != 0);
            boolean[] holds = {(f & 2048) != 0, c, z, c || z, (f & 128) != 0, (f & 4) != 0, less, less || z};
            for (int k = 0; k < 16; k++) {
                boolean jumps = holds[k / 2] == (k % 2 == 0);
                String to = jumps ? "IP=22" : "IP=12";
                Checks.step(String.format("%02X10", 0x70 + k), "F=" + Integer.toHexString(f), to);
                Checks.step(String.format("%02X10", 0x60 + k), "F=" + Integer.toHexString(f), to);
            }
        }
        Checks.step("70 80", "F=800", "IP=FF92");
        Checks.step("EB 7F", "", "IP=91");
        Checks.step("EB 80", "", "IP=FF92");
        Checks.step("E9 F0 FF", "", "IP=3");
        Checks.step("E9 00 80", "", "IP=8013");
        Checks.step("EA 34 12 78 56", "", "IP=1234 CODE=5678");
        Checks.step("FF E0", "A=1234", "IP=1234");
        Checks.step("FF 27", "[30000]=3412", "IP=1234");
        Checks.step("FF 2F", "[30000]=34127856", "IP=1234 CODE=5678");
    }

    private static void calls() {
        Checks.step("E8 F0 FF", "", "IP=3 SP=FE [200FE]=1300");
        Checks.step("9A 34 12 78 56", "", "IP=1234 CODE=5678 SP=FC [200FC]=15000010");
        Checks.step("FF D0", "A=1234", "IP=1234 SP=FE [200FE]=1200");
        Checks.step("FF D4", "", "IP=100 SP=FE [200FE]=1200");
        Checks.step("FF 17", "[30000]=3412", "IP=1234 SP=FE [200FE]=1200");
        Checks.step("FF 56 00", "BP=FE [200FE]=3412", "IP=1234 SP=FE [200FE]=1300");
        Checks.step("FF 1F", "[30000]=34127856", "IP=1234 CODE=5678 SP=FC [200FC]=12000010");
        Checks.step("FF 5E 00", "BP=FC [200FC]=34127856", "IP=1234 CODE=5678 SP=FC [200FC]=13000010");
        Checks.step("FF 1F", "B=FFFE [3FFFC]=00003412 [30000]=7856", "IP=1234 CODE=5678 SP=FC [200FC]=12000010");
        Checks.step("C3", "[20100]=3412", "IP=1234 SP=102");
        Checks.step("C1", "[20100]=3412", "IP=1234 SP=102");
        Checks.step("C2 06 00", "[20100]=3412", "IP=1234 SP=108");
        Checks.step("C0 00 FF", "[20100]=3412", "IP=1234 SP=2");
        Checks.step("CB", "[20100]=34127856", "IP=1234 CODE=5678 SP=104");
        Checks.step("C9", "[20100]=34127856", "IP=1234 CODE=5678 SP=104");
        Checks.step("CA 06 00", "[20100]=34127856", "IP=1234 CODE=5678 SP=10A");
        Checks.step("C8 06 00", "[20100]=34127856", "IP=1234 CODE=5678 SP=10A");
    }

    private static void loops() {
        Checks.step("E2 10", "C=2 F=FD5", "C=1 IP=22");
        Checks.step("E2 10", "C=1", "C=0");
        Checks.step("E2 F0", "C=0", "C=FFFF IP=2");
        Checks.step("E0 10", "C=2 F=0", "C=1 IP=22");
        Checks.step("E0 10", "C=2 F=40", "C=1");
        Checks.step("E0 10", "C=1 F=0", "C=0");
        Checks.step("E1 10", "C=2 F=40", "C=1 IP=22");
        Checks.step("E1 10", "C=2 F=0", "C=1");
        Checks.step("E1 10", "C=1 F=40", "C=0");
        Checks.step("E3 10", "C=0", "IP=22");
        Checks.step("E3 10", "C=1", "");
        Checks.step("E3 10", "C=100", "");
    }

    private static void flags() {
        Checks.step("F5", "F=0", "F=1");
        Checks.step("F5", "F=FD5", "F=FD4");
        Checks.step("F8", "F=FD5", "F=FD4");
        Checks.step("F9", "F=0", "F=1");
        Checks.step("FA", "F=FD5", "F=DD5");
        Checks.step("FB", "F=0", "F=200");
        Checks.step("FC", "F=FD5", "F=BD5");
        Checks.step("FD", "F=0", "F=400");
        Checks.step("9E", "A=FF00 F=0", "F=D5");
        Checks.step("9E", "A=FF F=FD5", "F=F00");
        Checks.step("9F", "A=1234 F=FD5", "A=D734");
        Checks.step("9F", "A=1234 F=0", "A=234");
        Checks.step("D6", "A=1234 F=1", "A=12FF");
        Checks.step("D6", "A=1234 F=FD4", "A=1200");
    }

    private static void shifts() {
        Checks.step("D0 C0", "A=81 F=0", "A=3 F=801");
        Checks.step("D0 C8", "A=81 F=0", "A=C0 F=1");
        Checks.step("D0 D0", "A=80 F=1", "A=1 F=801");
        Checks.step("D0 D8", "A=1 F=1", "A=80 F=801");
        Checks.step("D0 E0", "A=C0 F=10", "A=80 F=91");
        Checks.step("D0 F0", "A=40 F=10", "A=80 F=890");
        Checks.step("D0 E8", "A=81 F=10", "A=40 F=811");
        Checks.step("D0 F8", "A=81 F=800", "A=C0 F=85");
        Checks.step("D1 C0", "A=8001 F=0", "A=3 F=801");
        Checks.step("D1 D8", "A=1 F=0", "A=0 F=1");
        Checks.step("D1 3F", "[30000]=0180", "[30000]=00C0 F=85");
        Checks.step("D2 E0", "A=1 C=8", "A=0 F=845");
        Checks.step("D2 E0", "A=1 C=9", "A=0 F=44");
        Checks.step("D2 E0", "A=FF C=FF F=811", "A=0 F=54");
        Checks.step("D2 E0", "A=1234 C=100 F=FD5", "");
        Checks.step("D3 C8", "A=1234 C=4", "A=4123 F=800");
        Checks.step("D3 C0", "A=1234 C=1210", "A=1234 F=0");
        Checks.step("D3 D0", "A=1234 C=11 F=1", "A=1234 F=801");
        Checks.step("D3 F8", "A=8000 C=FF", "A=FFFF F=85");
        Checks.step("D2 C1", "C=3", "C=18 F=0");
        Checks.step("D3 E9", "C=4004", "C=400 F=4");
    }

    private static void products() {
        Checks.step("F6 E1", "A=FF0F C=10 F=FD5", "A=F0 F=7D4");
        Checks.step("F6 E1", "A=10 C=10 F=0", "A=100 F=801");
        Checks.step("F6 E4", "A=FFFF", "A=FE01 F=801");
        Checks.step("F6 E9", "A=80 C=80", "A=4000 F=801");
        Checks.step("F6 E9", "A=FF C=80", "A=80 F=801");
        Checks.step("F6 E9", "A=FF C=7F F=801", "A=FF81 F=0");
        Checks.step("F6 2F", "A=2 [30000]=C0", "A=FF80 F=0");
        Checks.step("F7 E1", "A=FFFF C=FFFF", "A=1 D=FFFE F=801");
        Checks.step("F7 E1", "A=FF C=101 D=7 F=801", "A=FFFF D=0 F=0");
        Checks.step("F7 E9", "A=8000 C=8000", "A=0 D=4000 F=801");
        Checks.step("F7 E9", "A=FFFF C=8000", "A=8000 D=0 F=801");
        Checks.step("F7 E9", "A=FFFF C=2 F=801", "A=FFFE D=FFFF F=0");
        Checks.step("F7 27", "A=1234 [30000]=0001", "A=3400 D=12 F=801");
        Checks.step("F7 E2", "A=2 D=3", "A=6 D=0");
    }

    private static void quotients() {
        Checks.step("F6 F1", "A=100 C=2 F=FD5", "A=80");
        Checks.step("F6 F1", "A=FE01 C=FF F=0", "A=FF");
        Checks.step("F6 F1", "A=207 C=8", "A=740");
        Checks.step("F6 F9", "A=FFF9 C=2", "A=FFFD");
        Checks.step("F6 F9", "A=7 C=FE", "A=1FD");
        Checks.step("F6 F9", "A=FFF9 C=FE", "A=FF03");
        Checks.step("F6 F9", "A=FF81 C=1", "A=81");
        Checks.step("F6 F9", "A=7F C=1", "A=7F");
        Checks.step("F7 F1", "D=1 A=0 C=2", "A=8000 D=0");
        Checks.step("F7 F1", "D=FFFE A=FFFF C=FFFF", "A=FFFF D=FFFE");
        Checks.step("F7 F9", "D=FFFF A=FFF9 C=2", "A=FFFD D=FFFF");
        Checks.step("F7 F9", "D=0 A=7FFF C=FFFF", "A=8001 D=0");
        Checks.step("F7 37", "D=0 A=64 [30000]=0700", "A=E D=2");
        noQuotient("F6 F1", "A=1234 C=0");
        noQuotient("F6 F1", "A=200 C=2");
        noQuotient("F6 F1", "A=FFFF C=FF");
        noQuotient("F6 F9", "A=1234 C=0");
        noQuotient("F6 F9", "A=80 C=1");
        noQuotient("F6 F9", "A=FF80 C=1");
        noQuotient("F6 F9", "A=80 C=FF");
        noQuotient("F6 F9", "A=8000 C=FF");
        noQuotient("F7 F1", "D=1 A=1234 C=0");
        noQuotient("F7 F1", "D=2 A=0 C=2");
        noQuotient("F7 F9", "D=0 A=1234 C=0");
        noQuotient("F7 F9", "D=0 A=8000 C=1");
        noQuotient("F7 F9", "D=FFFF A=8000 C=1");
        noQuotient("F7 F9", "D=0 A=8000 C=FFFF");
        noQuotient("F7 F9", "D=8000 A=0 C=FFFF");
        noQuotient("D4 00", "A=1234");
    }

    private static void noQuotient(String code, String before) {
        Checks.step(code, before + " F=FD5 [00000]=78563412", "IP=5678 CODE=1234 F=CD5 SP=FA [200FA]=12000010D7FF");
    }

    private static void adjustments() {
        Checks.step("27", "A=129A F=0", "A=1200 F=55");
        Checks.step("27", "A=1299 F=0", "A=1299 F=84");
        Checks.step("27", "A=120A F=0", "A=1210 F=10");
        Checks.step("27", "A=1200 F=11", "A=1266 F=15");
        Checks.step("27", "A=12A0 F=0", "A=1200 F=45");
        Checks.step("27", "A=FFFF F=800", "A=FF65 F=815");
        Checks.step("2F", "A=1200 F=0", "A=1200 F=44");
        Checks.step("2F", "A=1200 F=10", "A=12FA F=95");
        Checks.step("2F", "A=1205 F=10", "A=12FF F=95");
        Checks.step("2F", "A=1206 F=10", "A=1200 F=54");
        Checks.step("2F", "A=129A F=0", "A=1234 F=11");
        Checks.step("2F", "A=1299 F=1", "A=1239 F=5");
        Checks.step("37", "A=120A F=8C4", "A=1300 F=8D5");
        Checks.step("37", "A=12FA F=0", "A=1300 F=11");
        Checks.step("37", "A=FF1F F=0", "A=5 F=11");
        Checks.step("37", "A=1219 F=1", "A=1209 F=0");
        Checks.step("37", "A=1210 F=10", "A=1306 F=11");
        Checks.step("3F", "A=120A F=8C4", "A=1104 F=8D5");
        Checks.step("3F", "A=0 F=10", "A=FF0A F=11");
        Checks.step("3F", "A=1219 F=11", "A=1103 F=11");
        Checks.step("3F", "A=1219 F=1", "A=1209 F=0");
        Checks.step("D4 0A", "A=FF63 F=811", "A=909 F=815");
        Checks.step("D4 FF", "A=12FF F=0", "A=100 F=44");
        Checks.step("D4 01", "A=1280 F=0", "A=8000 F=44");
        Checks.step("D5 0A", "A=909 F=811", "A=63 F=815");
        Checks.step("D5 00", "A=1280 F=0", "A=80 F=80");
        Checks.step("D5 FF", "A=FFFF F=0", "A=0 F=44");
    }

    private static void lastOnes() {
        Checks.step("9B", "F=FD5", "");
        for (int c = 0xD8; c < 0xE0; c++) {
            Checks.step(String.format("%02XC0", c), "A=1 F=FD5", "");
            Checks.step(String.format("%02X1F", c), "A=1 F=FD5", "");
            Checks.step(String.format("%02X7E12", c), "A=1 F=FD5", "");
            Checks.step(String.format("%02XB61234", c), "A=1 F=FD5", "");
            Checks.step(String.format("%02X361234", c), "A=1 F=FD5", "");
        }
        Checks.step("F4", "F=FD5", "");
        Checks.steps(7, "B8 05 00 BB 03 00 01 D8 50 5A 29 DA 87 D1", "", "A=8 B=3 D=0 C=5 F=4");
    }

    /** What comes to e in memory makes its page also when it is the same; what comes by 7 and 8 does not. */
    private static void whatIsWritten() {
        String[] writing = {"00 07", "09 07", "20 07", "80 07 00", "83 2F 00", "86 07", "88 07", "8C 07", "8F 07",
            "A2 00 00", "A3 00 00", "C6 07 00", "C7 07 00 00", "D0 07", "D2 07", "D3 3F", "F6 1F", "FE 07", "AA",
            "A4"};
        String[] none = {"38 07", "39 07", "3A 07", "80 3F 00", "81 3F 00 00", "83 3F 01", "84 07", "85 07", "8A 07",
            "A0 00 00", "F6 07 01", "F7 07 01 00", "F6 27", "D8 07", "AC", "AE", "A6", "FF 27", "C4 07"};
        for (String code : writing) {
            MachineCore x = Checks.machine(code);
            x.run(1);
            Checks.due(code + " makes a page", x.count(1), 2);
        }
        for (String code : none) {
            MachineCore x = Checks.machine(code);
            x.run(1);
            Checks.due(code + " makes no page", x.count(1), 1);
        }
    }
}

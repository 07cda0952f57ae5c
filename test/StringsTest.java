/** Promise 9: strings, and REPEAT. */
public final class StringsTest {
    public static void main(String[] args) {
        once();
        backwards();
        segments();
        repeated();
        untilZero();
        sixtyFour();
        Checks.finish();
    }

    private static void once() {
        String at = "SI=10 DI=20 A=1234 C=9 F=0 ";
        Checks.step("A4", at + "[30010]=5566 [40020]=7788", "SI=11 DI=21 [40020]=5588");
        Checks.step("A5", at + "[30010]=5566 [40020]=7788", "SI=12 DI=22 [40020]=5566");
        Checks.step("A6", at + "[30010]=5566 [40020]=5688", "SI=11 DI=21 F=95");
        Checks.step("A7", at + "[30010]=5566 [40020]=5566", "SI=12 DI=22 F=44");
        Checks.step("A7", at + "[30010]=0080 [40020]=0100", "SI=12 DI=22 F=814");
        Checks.step("AA", at + "[40020]=7788", "DI=21 [40020]=3488");
        Checks.step("AB", at + "[40020]=7788", "DI=22 [40020]=3412");
        Checks.step("AC", at + "[30010]=5566", "SI=11 A=1255");
        Checks.step("AD", at + "[30010]=5566", "SI=12 A=6655");
        Checks.step("AE", at + "[40020]=34", "DI=21 F=44");
        Checks.step("AE", at + "[40020]=35", "DI=21 F=95");
        Checks.step("AF", at + "[40020]=3412", "DI=22 F=44");
    }

    private static void backwards() {
        String at = "SI=0 DI=1 A=1234 F=400 ";
        Checks.step("A4", at + "[30000]=5566", "SI=FFFF DI=0 [40000]=0055");
        Checks.step("A5", at + "[30000]=5566", "SI=FFFE DI=FFFF [40001]=5566");
        Checks.step("AA", at, "DI=0 [40001]=34");
        Checks.step("AB", "DI=FFFF A=1234", "DI=1 [4FFFF]=34 [40000]=12");
        Checks.step("AC", at + "[30000]=5566", "SI=FFFF A=1255");
        Checks.step("AF", at + "[40001]=3412", "DI=FFFF F=444");
        Checks.step("AD", "SI=FFFF [3FFFC]=00000055 [30000]=66", "SI=1 A=6655");
        Checks.step("F3 A5", at + "C=2 SI=2 DI=2 [30000]=11223344", "SI=FFFE DI=FFFE C=0 [40000]=11223344");
    }

    private static void segments() {
        String bytes = "[30000]=11 [20000]=22 [40000]=33 [10000]=44 DI=8 ";
        Checks.step("36 A4", bytes, "SI=1 DI=9 [40008]=22");
        Checks.step("26 AC", bytes, "SI=1 A=33");
        Checks.step("2E AC", bytes, "SI=1 A=44");
        Checks.step("3E AC", bytes, "SI=1 A=11");
        Checks.step("36 AA", bytes + "A=99", "DI=9 [40008]=99 [20008]=00");
        Checks.step("36 AE", bytes + "A=33 DI=0", "DI=1 F=44");
        Checks.step("36 A6", bytes + "DI=0 [40000]=22", "SI=1 DI=1 F=44");
    }

    private static void repeated() {
        Checks.step("F3 A4", "C=3 SI=10 [30010]=11223344", "C=0 SI=13 DI=3 [40000]=11223300");
        Checks.step("F2 A4", "C=3 SI=10 [30010]=11223344", "C=0 SI=13 DI=3 [40000]=11223300");
        Checks.step("F3 A4", "C=3 DI=11 SI=10 E=3000 [30010]=1122", "C=0 SI=13 DI=14 [30010]=11111111");
        Checks.step("F3 AB", "C=2 A=1234 F=FD5 DI=4", "C=0 DI=0 [40002]=34123412");
        Checks.step("F2 AD", "C=2 [30000]=11223344", "C=0 SI=4 A=4433");
        String[] strings = {"A4", "A5", "A6", "A7", "AA", "AB", "AC", "AD", "AE", "AF"};
        for (String code : strings) {
            Checks.step("F3" + code, "C=0 A=1234 F=FD5", "");
            Checks.step("F2" + code, "C=0 A=1234 F=0", "");
        }
        Checks.step("F2 F3 F3 26 AE", "C=5 A=0 F=0", "C=0 DI=5 F=44");
    }

    private static void untilZero() {
        String same = "C=5 [30000]=1122334455 [40000]=1122034455 F=0 ";
        Checks.step("F3 A6", same, "C=2 SI=3 DI=3 F=4");
        Checks.step("F2 A6", same, "C=4 SI=1 DI=1 F=44");
        Checks.step("F3 A7", same, "C=3 SI=4 DI=4 F=4");
        Checks.step("F3 AE", "C=5 A=11 [40000]=1111111110", "C=0 DI=5 F=0");
        Checks.step("F3 AE", "C=5 A=11 [40000]=1111100000", "C=2 DI=3 F=0");
        Checks.step("F2 AE", "C=5 A=11 [40000]=1010101110", "C=1 DI=4 F=44");
        Checks.step("F2 AF", "C=2 A=1111 [40000]=1010101010", "C=0 DI=4 F=0");
        Checks.step("F3 F2 AE", "C=5 A=11 [40000]=1010101110", "C=1 DI=4 F=44");
        Checks.step("F2 F3 AE", "C=5 A=11 [40000]=1010101110", "C=4 DI=1 F=0");
        Checks.step("F2 F0 AE", "C=5 A=11 [40000]=1010101110", "C=1 DI=4 F=44");
    }

    private static void sixtyFour() {
        String code = "F3 26 AA";
        Checks.step(code, "C=40 A=7", "C=0 DI=40 [4003F]=0700");
        Checks.step(code, "C=41 A=7", "C=1 DI=40 IP=10 [4003F]=0700");
        Checks.steps(2, code, "C=41 A=7", "C=0 DI=41 [40040]=0700");
        Checks.steps(2, code, "C=80 A=7", "C=0 DI=80");
        Checks.step("F3 AE", "C=80", "C=40 DI=40 IP=10 F=44");
        Checks.step("F2 AE", "C=80 [4003F]=00", "C=7F DI=1 F=44");
        Checks.step("F2 AE", "C=80 A=1 [4003F]=01", "C=40 DI=40 F=44");
        Checks.step("F3 AF", "C=FFFF", "C=FFBF DI=80 IP=10 F=44");
        MachineCore x = Checks.machine("F3 AA 40");
        x.set(1, 200);
        x.set(13, 512);
        x.write(36, 0x00000050);
        x.write(0x50000, 0xCF000000);
        x.run(1);
        x.line(9);
        x.run(1);
        Checks.due("the LINE in between", x.get(9), 0x5000);
        Checks.due("IP at the prefix is pushed", x.byteAt(0x200FA), 0x10);
        Checks.due("C", x.get(1), 136);
        x.run(4);
        Checks.due("it went on to its end", x.get(1), 0);
        Checks.due("IP", x.get(12), 0x12);
        Checks.due("repetitions", x.count(3), 200);
        MachineCore y = Checks.machine("F3 AA 90");
        y.set(1, 100);
        y.set(13, 256);
        y.write(4, 0x00000050);
        y.run(2);
        Checks.due("1 between the parts of a string", y.get(9), 0x5000);
        Checks.due("C", y.get(1), 36);
        Checks.due("IP pushed", y.byteAt(0x200FA), 0x10);
        MachineCore z = Checks.machine("F3 AA 90");
        z.set(8, 0x1000);
        z.set(1, 65);
        z.set(0, 0x40);
        z.run(1);
        z.run(1);
        Checks.due("a string that wrote over itself", z.get(0), 0x41);
        Checks.due("its C", z.get(1), 1);
    }
}

/** Promises 6 and 7: port, setPort; the codes that use ports. */
public final class PortsTest {
    public static void main(String[] args) {
        MachineCore x = new MachineCore();
        for (int p = 0; p < 256; p++) {
            x.setPort(p, 3 * p + 256);
        }
        for (int p = 0; p < 256; p++) {
            Checks.due("port " + p, x.port(p - 256), 3 * p & 255);
        }
        MachineCore y = new MachineCore();
        y.setPort(300, 77);
        Checks.due("by the lowest eight bits", y.port(44), 77);
        y.setPort(-1, -2);
        Checks.due("port 255", y.port(255), 254);
        Checks.due("port max", y.port(Integer.MAX_VALUE), 254);
        Checks.due("port min", y.port(Integer.MIN_VALUE), 0);
        y.setPort(Integer.MIN_VALUE, Integer.MAX_VALUE);
        Checks.due("port 0", y.port(0), 255);
        in("E4 12", 0, 0xAB11);
        in("E5 12", 0, 0x2211);
        in("E5 FF", 0, 0x4433);
        in("EC", 0xFF12, 0xAB11);
        in("ED", 0x0012, 0x2211);
        in("ED", 0x12FF, 0x4433);
        out("E6 12", 0, 0x34, 0x22, 0x44, 0x33);
        out("E7 12", 0, 0x34, 0x12, 0x44, 0x33);
        out("E7 FF", 0, 0x11, 0x22, 0x12, 0x34);
        out("EE", 0x12, 0x34, 0x22, 0x44, 0x33);
        out("EF", 0x12, 0x34, 0x12, 0x44, 0x33);
        out("EF", 0xFF, 0x11, 0x22, 0x12, 0x34);
        byNoOtherCode();
        Checks.finish();
    }

    private static MachineCore withPorts(String code, int d) {
        MachineCore x = Checks.machine(code);
        x.setPort(0x12, 0x11);
        x.setPort(0x13, 0x22);
        x.setPort(0xFF, 0x33);
        x.setPort(0x00, 0x44);
        x.set(2, d);
        x.set(13, 0xCD5);
        return x;
    }

    private static void in(String code, int d, int a) {
        MachineCore x = withPorts(code, d);
        x.set(0, 0xABCD);
        Checks.due(code + " run", x.run(1), 0);
        Checks.due(code + " A", x.get(0), a);
        Checks.due(code + " FLAGS", x.get(13), 0xCD5);
        Checks.due(code + " D", x.get(2), d);
    }

    private static void out(String code, int d, int at12, int at13, int at0, int at255) {
        MachineCore x = withPorts(code, d);
        x.set(0, 0x1234);
        Checks.due(code + " run", x.run(1), 0);
        Checks.due(code + " port 12", x.port(0x12), at12);
        Checks.due(code + " port 13", x.port(0x13), at13);
        Checks.due(code + " port 0", x.port(0), at0);
        Checks.due(code + " port 255", x.port(255), at255);
        Checks.due(code + " A", x.get(0), 0x1234);
        Checks.due(code + " pages", x.count(1), 1);
    }

    /** E4 to E7 and EC to EF alone: the others leave each port as it is, and take nothing from one. */
    private static void byNoOtherCode() {
        for (int c = 0; c < 256; c++) {
            boolean uses = c >= 0xE4 && c <= 0xE7 || c >= 0xEC && c <= 0xEF;
            for (int m = 0; m < 256 && !uses; m += 37) {
                String code = String.format("%02X%02X2020", c, m);
                MachineCore x = filled(code, 0x55);
                MachineCore y = filled(code, 0xAA);
                Checks.due(code + " run", x.run(1), y.run(1));
                for (int p = 0; p < 100; p++) {
                    Checks.due(code + " port " + p, x.port(p), 0x55);
                }
                for (int r = 0; r < 14; r++) {
                    Checks.due(code + " get " + r, x.get(r), y.get(r));
                }
            }
        }
    }

    /** Ports 0 to 99 hold a number that neither A nor the code has. */
    private static MachineCore filled(String code, int held) {
        MachineCore x = Checks.machine(code);
        for (int p = 0; p < 100; p++) {
            x.setPort(p, held);
        }
        x.set(0, 0x1234);
        x.set(1, 3);
        x.set(2, 50);
        return x;
    }
}

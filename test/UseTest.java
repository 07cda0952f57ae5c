/** What README.md shows, in its order; and an object's whole life of 512 calls. */
public final class UseTest {
    public static void main(String[] args) {
        shown();
        allCalls();
        Checks.finish();
    }

    private static void shown() {
        MachineCore x = new MachineCore();
        x.set(9, 0x1000);
        x.write(0x10000, 0xB83412F4);
        Checks.due("run", x.run(10), MachineCore.HALTED);
        Checks.due("A", x.get(0), 0x1234);
        Checks.due("IP", x.get(12), 4);
        Checks.due("steps", x.count(0), 2);
        x.set(10, 0x2000);
        x.write(4 * 9, 0x00000030);
        x.line(9);
        Checks.due("INTERRUPT is not set", x.run(1), MachineCore.HALTED);
        x.set(13, 512);
        Checks.due("it is", x.run(1), MachineCore.DONE);
        Checks.due("CODE", x.get(9), 0x3000);
        Checks.due("IP pushed", x.byteAt(0x2FFFA), 4);
        x.set(13, 512);
        x.line(9);
        x.line(MachineCore.NONE);
        x.run(1);
        Checks.due("NONE emptied the LINE", x.get(12), 2);
    }

    /** Each of the calls up to the 512th is as the first: here runs of as many steps as may be, of 64 times each. */
    private static void allCalls() {
        MachineCore x = new MachineCore();
        x.write(0x100, 0xB9FFFFF3);
        x.write(0x104, 0xABEBF990);
        x.set(12, 0x100);
        x.set(8, 0x8000);
        x.set(0, 0x1234);
        int calls = 5;
        int steps = 0;
        while (calls < 508) {
            Checks.due("run in call " + calls, x.run(500), MachineCore.DONE);
            steps += 500;
            calls++;
        }
        Checks.due("steps", x.count(0), steps);
        Checks.due("pages", x.count(1), 256);
        Checks.due("lost", x.count(2), 2L * lostTimes(steps));
        Checks.due("repetitions", x.count(3), times(steps));
    }

    /** C becomes 65535, the string 1024 steps long (63 times in the last one), the jump back. */
    private static int times(int steps) {
        int rest = steps % 1026;
        return steps / 1026 * 65535 + Math.min(Math.max(rest - 1, 0) * 64, 65535);
    }

    /** 255 of the target's 256 pages come, as the code has one; what would go to the last one is lost. */
    private static int lostTimes(int steps) {
        int lost = 0;
        int offset = 0;
        int all = times(steps);
        for (int i = 0; i < all; i++) {
            lost += offset >= 0xFF00 ? 1 : 0;
            offset = offset + 2 & 0xFFFF;
        }
        return lost;
    }
}

/** Promises 1 to 3: a new object, set, get. */
public final class RegistersTest {
    public static void main(String[] args) {
        newObject();
        setAndGet();
        wrongNumbers();
        Checks.finish();
    }

    private static void newObject() {
        MachineCore x = new MachineCore();
        for (int r = 0; r < 14; r++) {
            Checks.due("new get " + r, x.get(r), 0);
        }
        for (int p = 0; p < 256; p++) {
            Checks.due("new port " + p, x.port(p), 0);
        }
        for (int what = 0; what < 4; what++) {
            Checks.due("new count " + what, x.count(what), 0);
        }
        MachineCore y = new MachineCore();
        for (int place = 0; place < 1 << 20; place += 2111) {
            Checks.due("new byteAt " + place, y.byteAt(place), 0);
        }
        MachineCore z = new MachineCore();
        z.set(13, 512);
        z.set(9, 16);
        Checks.due("a code, as the LINE is empty", z.run(1), MachineCore.DONE);
        Checks.due("IP behind 00 00", z.get(12), 2);
    }

    private static void setAndGet() {
        MachineCore x = new MachineCore();
        for (int r = 0; r < 13; r++) {
            x.set(r, 0x10000 * r + 1000 + r);
        }
        for (int r = 0; r < 13; r++) {
            Checks.due("get " + r, x.get(r), 1000 + r);
        }
        Checks.due("FLAGS", x.get(13), 0);
        int[] numbers = {0, 1, 65535, 65536, -1, Integer.MIN_VALUE, Integer.MAX_VALUE, -65536, 0x12345678};
        for (int v : numbers) {
            for (int r = 0; r < 14; r++) {
                x.set(r, v);
                Checks.due("set " + r + " to " + v, x.get(r), v & (r == 13 ? 0xFD5 : 0xFFFF));
            }
        }
        for (int bit = 0; bit < 32; bit++) {
            x.set(13, 1 << bit);
            int kept = bit == 1 || bit == 3 || bit == 5 || bit > 11 ? 0 : 1 << bit;
            Checks.due("FLAGS bit " + bit, x.get(13), kept);
        }
    }

    private static void wrongNumbers() {
        MachineCore x = new MachineCore();
        x.set(13, 0xFD5);
        int[] none = {-1, 14, 15, 256, Integer.MIN_VALUE, Integer.MAX_VALUE};
        for (int r : none) {
            int k = 0;
            try {
                x.set(r, 7);
            } catch (IndexOutOfBoundsException e) {
                k = e.getClass() == IndexOutOfBoundsException.class ? 1 : 2;
            }
            Checks.due("set " + r + " throws", k, 1);
            k = 0;
            try {
                x.get(r);
            } catch (IndexOutOfBoundsException e) {
                k = e.getClass() == IndexOutOfBoundsException.class ? 1 : 2;
            }
            Checks.due("get " + r + " throws", k, 1);
        }
        for (int r = 0; r < 14; r++) {
            Checks.due("still " + r, x.get(r), r == 13 ? 0xFD5 : 0);
        }
    }
}

/**
 * A call that throws changes nothing: in states that differ in all that an object keeps, each refused call is made at
 * one object and not at its twin; both answer the same then and after going on. At each bound: the last call that is
 * taken, the first that is not, and the ends of int.
 */
public final class RefusedCallsTest {
    private static final int END = 1 << 20;
    private static final int TRAP = 256;
    private static final int INTERRUPT = 512;
    private static final int MIN = Integer.MIN_VALUE;
    private static final int MAX = Integer.MAX_VALUE;
    private static final int STATES = 8;
    private static final int OUT_OF_BOUNDS = 1;
    private static final int ILLEGAL_ARGUMENT = 2;

    public static void main(String[] args) {
        bounds("set", OUT_OF_BOUNDS, new int[] {0, 1, 7, 8, 11, 12, 13}, new int[] {-1, 14, 15, 256, 65536, MIN, MAX});
        bounds("get", OUT_OF_BOUNDS, new int[] {0, 1, 7, 8, 11, 12, 13}, new int[] {-1, 14, 15, 256, 65536, MIN, MAX});
        bounds("write", OUT_OF_BOUNDS, new int[] {0, 1, END - 5, END - 4},
                new int[] {-1, END - 3, END - 2, END - 1, END, END + 1, MIN, MAX, MAX - 3});
        bounds("byteAt", OUT_OF_BOUNDS, new int[] {0, 1, END - 2, END - 1},
                new int[] {-1, END, END + 1, 2 * END, MIN, MAX});
        bounds("line", ILLEGAL_ARGUMENT, new int[] {MIN, -2, -1, 0, 1, 254, 255}, new int[] {256, 257, 65536, MAX});
        bounds("run", ILLEGAL_ARGUMENT, new int[] {0, 1, 2, 499, 500}, new int[] {-1, 501, 502, 10000, MIN, MAX});
        bounds("count", ILLEGAL_ARGUMENT, new int[] {0, 1, 2, 3}, new int[] {-1, 4, 5, 256, MIN, MAX});
        neverRefused();
        Checks.finish();
    }

    private static void bounds(String call, int exception, int[] taken, int[] refused) {
        for (int n : taken) {
            Checks.due(call + " " + n + " throws", thrown(made(0), call, n), 0);
        }
        for (int n : refused) {
            for (int state = 0; state < STATES; state++) {
                changesNothing(call, exception, n, state);
            }
        }
    }

    private static void changesNothing(String call, int exception, int n, int state) {
        MachineCore x = made(state);
        MachineCore twin = made(state);
        String what = call + " " + n + " in state " + state;
        Checks.due(what + " throws", thrown(x, call, n), exception);
        same(what, x, twin);
        for (int steps = 1; steps < 4; steps++) {
            Checks.due(what + " throws again", thrown(x, call, n), exception);
            Checks.due(what + " going on", x.run(steps), twin.run(steps));
            same(what + " behind " + steps, x, twin);
        }
    }

    /** 0 when the call throws nothing, -1 when another class than the two is thrown. */
    private static int thrown(MachineCore x, String call, int n) {
        try {
            switch (call) {
                case "set":
                    x.set(n, 0x7777);
                    break;
                case "get":
                    x.get(n);
                    break;
                case "write":
                    x.write(n, 0x77777777);
                    break;
                case "byteAt":
                    x.byteAt(n);
                    break;
                case "line":
                    x.line(n);
                    break;
                case "run":
                    x.run(n);
                    break;
                default:
                    x.count(n);
                    break;
            }
            return 0;
        } catch (RuntimeException e) {
            return e.getClass() == IndexOutOfBoundsException.class ? OUT_OF_BOUNDS
                    : e.getClass() == IllegalArgumentException.class ? ILLEGAL_ARGUMENT : -1;
        }
    }

    /** All that can be asked, some of the bytes and ports among it. */
    private static void same(String what, MachineCore x, MachineCore twin) {
        for (int r = 0; r < 14; r++) {
            Checks.due(what + " get " + r, x.get(r), twin.get(r));
        }
        for (int k = 0; k < 4; k++) {
            Checks.due(what + " count " + k, x.count(k), twin.count(k));
        }
        for (int p = 0; p < 256; p += 51) {
            Checks.due(what + " port " + p, x.port(p), twin.port(p));
        }
        int[] places = {0, 1, 2, 3, END - 4, END - 3, END - 2, END - 1, 0x10010, 0x40000, 0x200FA, 0x200FE};
        for (int place : places) {
            Checks.due(what + " byteAt " + place, x.byteAt(place), twin.byteAt(place));
        }
    }

    /** 0 plain, 1 a LINE, 2 HALT, 3 TRAP is due, 4 a segment was given, 5 within a string, 6 full memory, 7 NO CODE. */
    private static MachineCore made(int state) {
        String[] codes = {"40 41 50", "40 41 50", "F4 40", "40 41 50", "8E C0 40 41", "F3 AA 40", "50 51 52", "40 FE D0"};
        MachineCore x = Checks.machine(codes[state]);
        x.write(4, 0x01000050);
        x.write(36, 0x09000050);
        x.write(END - 4, 0x01020304);
        for (int p = 0; p < 256; p += 51) {
            x.setPort(p, p + 1);
        }
        x.set(1, 300);
        x.set(13, state == 3 ? TRAP : INTERRUPT);
        if (state == 1 || state == 4) {
            x.line(9);
        }
        if (state == 4) {
            x.line(-1);
        }
        for (int i = 0; state == 6 && i < 256; i++) {
            x.write(0x50000 + 256 * i, i);
        }
        if (state > 1) {
            x.run(state == 7 ? 2 : 1);
        }
        if (state == 4) {
            x.line(9);
        }
        return x;
    }

    /** port, setPort and the constructor name no exception: none comes for any number. */
    private static void neverRefused() {
        int[] numbers = {0, 1, -1, 255, 256, -256, -257, 65535, MIN, MIN + 1, MAX, MAX - 1};
        MachineCore x = new MachineCore();
        for (int p : numbers) {
            for (int v : numbers) {
                x.setPort(p, v);
                Checks.due("port " + p + " of " + v, x.port(p & 255), v & 255);
            }
        }
        for (int v : numbers) {
            for (int r = 0; r < 12; r++) {
                x.set(r, v);
            }
        }
        Checks.due("set takes each number", x.get(11), (MAX - 1) & 0xFFFF);
    }
}

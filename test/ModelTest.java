/** Promises 2 to 10: the class held against the document's words told once more (support/Model), on many made-up runs. */
public final class ModelTest {
    private static final int[] EDGES = {0, 1, 2, 3, 0x7F, 0x80, 0xFF, 0x100, 0x7FFE, 0x7FFF, 0x8000, 0x8001, 0xFF7F, 0xFF80,
        0xFFFC, 0xFFFD, 0xFFFE, 0xFFFF};
    private static final int MOST_CALLS = 512;
    private static long seed = 20261120;
    private static MachineCore x;
    private static Model y;
    private static int calls;

    public static void main(String[] args) {
        allCodes();
        programs();
        fullMemory();
        Checks.finish();
    }

    /** 0 to n - 1, always the same row of numbers. */
    private static int some(int n) {
        seed = seed * 6364136223846793005L + 1442695040888963407L;
        return (int) ((seed >>> 33) % n);
    }

    private static int someWord() {
        return some(3) == 0 ? EDGES[some(EDGES.length)] : some(65536);
    }

    private static int someFour() {
        return some(65536) << 16 | some(65536);
    }

    private static void begin() {
        x = new MachineCore();
        y = new Model();
        calls = 0;
    }

    private static boolean hasRoom(int n) {
        return calls + n <= MOST_CALLS;
    }

    private static void set(int r, int v) {
        x.set(r, v);
        y.set(r, v);
        calls++;
    }

    private static void write(int place, int four) {
        x.write(place, four);
        y.write(place, four);
        calls++;
    }

    private static void setAll() {
        for (int r = 0; r < 12; r++) {
            set(r, someWord());
        }
        set(13, someWord() & (some(4) == 0 ? 0xFFFF : 0xFCFF));
    }

    /** What the run answers, all registers and counts, and some of the bytes and ports that were given. */
    private static int run(int n, String what) {
        y.written.clear();
        int answer = y.run(n);
        Checks.due(what + " run", x.run(n), answer);
        for (int r = 0; r < 14; r++) {
            Checks.due(what + " get " + r, x.get(r), y.get(r));
        }
        for (int k = 0; k < 4; k++) {
            Checks.due(what + " count " + k, x.count(k), y.count(k));
        }
        calls += 19;
        int size = y.written.size();
        for (int i = 0; i < size && hasRoom(1) && i < 8; i++) {
            int place = y.written.get(size <= 8 ? i : some(size));
            Checks.due(what + " byteAt " + place, x.byteAt(place), y.byteAt(place));
            calls++;
        }
        return answer;
    }

    /** Each code with each second byte, from registers at edges. */
    private static void allCodes() {
        begin();
        for (int round = 0; round < 3; round++) {
            for (int code = 0; code < 65536; code++) {
                if (!hasRoom(50)) {
                    begin();
                }
                setAll();
                set(12, 0x100 + some(16));
                set(9, some(4096) + 0x100);
                int place = 16 * y.get(9) + y.get(12);
                int prefix = some(4) == 0 ? 0x26 + 8 * some(4) : 0xF0 + some(4);
                write(place + 2, some(2) == 0 ? someFour() : EDGES[some(EDGES.length)] * 0x10001);
                write(place - 2, some(256) << 24 | prefix << 16 | code);
                set(12, y.get(12) - some(2));
                int at = 16 * y.get(11) + EDGES[some(EDGES.length)] & 0xFFFFC;
                write(at, someFour());
                run(1, Integer.toHexString(code) + " round " + round);
            }
        }
    }

    /** Codes at random, up to 400 steps, the LINE and FLAGS between them. */
    private static void programs() {
        for (int k = 0; k < 4000; k++) {
            begin();
            setAll();
            set(9, 0x1000 + some(16));
            set(12, some(256));
            set(8, 0x1000 + some(64));
            set(11, 0x1000 + some(64));
            set(10, 0x1000 + some(256));
            set(1, some(300));
            int place = 16 * y.get(9) + y.get(12);
            for (int i = 0; i < 20; i++) {
                write(place + 4 * i, someFour() & (some(3) == 0 ? 0xF73FF73F : -1));
            }
            for (int n = 0; n < 12; n++) {
                write(4 * n, some(256) << 16 | 0x0010);
            }
            for (int i = 0; i < 12 && hasRoom(40); i++) {
                betweenRuns();
                int answer = run(some(3) == 0 ? some(40) : some(4), "program " + k + " part " + i);
                if (answer == 2 && some(2) == 0) {
                    set(12, y.get(12) + 1);
                }
            }
            ports("program " + k);
        }
    }

    private static void betweenRuns() {
        if (some(3) == 0) {
            int n = some(14) - 2;
            x.line(n);
            y.line = Math.max(n, -1);
            calls++;
        }
        if (some(4) == 0) {
            set(13, y.get(13) ^ (some(2) == 0 ? Model.TRAP : Model.INTERRUPT));
        }
        if (some(6) == 0) {
            set(1, some(200));
        }
    }

    private static void ports(String what) {
        for (int i = 0; i < 8 && hasRoom(1); i++) {
            int p = some(256);
            Checks.due(what + " port " + p, x.port(p), y.ports[p]);
            calls++;
        }
    }

    /** Some 254 pages are there before, so that what is written next is lost. */
    private static void fullMemory() {
        for (int k = 0; k < 400; k++) {
            begin();
            setAll();
            set(9, 0x1000);
            set(12, some(65536));
            int pages = 250 + some(6);
            for (int i = 0; i < pages; i++) {
                write(0x80000 + 256 * i + some(253), someFour());
            }
            for (int i = 0; i < 12; i++) {
                write(0x10000 + y.get(12) + 4 * i, someFour());
            }
            for (int i = 0; i < 6 && hasRoom(40); i++) {
                run(1 + some(20), "full " + k + " part " + i);
                write(some((1 << 20) - 3), someFour());
            }
        }
    }
}

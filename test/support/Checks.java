/** Counts answers that are not due, and makes machines from texts. */
final class Checks {
    private static final String[] NAMES =
            {"A", "C", "D", "B", "SP", "BP", "SI", "DI", "E", "CODE", "STACK", "DATA", "IP", "F"};
    private static int wrong = 0;
    private static int all = 0;

    private Checks() {
    }

    static void due(String what, long got, long want) {
        all++;
        if (got != want) {
            wrong++;
            if (wrong <= 40) {
                System.out.println(what + " answered " + got + ", due is " + want);
            }
        }
    }

    /** Ends the test: with exit code 1 if an answer was not the one that is due. */
    static void finish() {
        System.out.println(all + " answers, " + wrong + " of them not as due");
        if (wrong != 0) {
            System.exit(1);
        }
    }

    static int numberOf(String name) {
        for (int i = 0; i < NAMES.length; i++) {
            if (NAMES[i].equals(name)) {
                return i;
            }
        }
        throw new IllegalArgumentException(name);
    }

    static int[] bytes(String hex) {
        String plain = hex.replace(" ", "");
        int[] out = new int[plain.length() / 2];
        for (int i = 0; i < out.length; i++) {
            out[i] = Integer.parseInt(plain.substring(2 * i, 2 * i + 2), 16);
        }
        return out;
    }

    /** Puts bytes to a place; up to three bytes behind them become 0. */
    static void put(MachineCore x, int place, String hex) {
        int[] all = bytes(hex);
        for (int i = 0; i < all.length; i += 4) {
            int four = 0;
            for (int k = 0; k < 4; k++) {
                four = four << 8 | (i + k < all.length ? all[i + k] : 0);
            }
            x.write(place + i, four);
        }
    }

    /** Registers as CODE 1000, IP 10, STACK 2000, SP 100, DATA 3000, E 4000, and code at CODE and IP. */
    static MachineCore machine(String code) {
        MachineCore x = new MachineCore();
        x.set(9, 0x1000);
        x.set(12, 0x10);
        x.set(10, 0x2000);
        x.set(4, 0x100);
        x.set(11, 0x3000);
        x.set(8, 0x4000);
        put(x, 0x10010, code);
        return x;
    }

    /** Sets what a text like "A=12 F=1 [30000]=1234" says: registers, bytes from places on. */
    static void prepare(MachineCore x, String state) {
        for (String part : state.trim().split("\\s+")) {
            if (part.isEmpty()) {
                continue;
            }
            String[] two = part.split("=");
            if (two[0].startsWith("[")) {
                put(x, Integer.parseInt(two[0].substring(1, two[0].length() - 1), 16), two[1]);
            } else {
                x.set(numberOf(two[0]), Integer.parseInt(two[1], 16));
            }
        }
    }

    /**
     * Makes one step of a code, then looks at all registers: those in the text become what it says, IP is behind the
     * code if it does not say else, all others stay.
     */
    static void step(String code, String before, String after) {
        steps(1, code, before, after);
    }

    static void steps(int n, String code, String before, String after) {
        MachineCore x = machine(code);
        prepare(x, before);
        int[] want = new int[14];
        for (int i = 0; i < 14; i++) {
            want[i] = x.get(i);
        }
        want[12] = 0x10 + bytes(code).length;
        String what = code + " | " + before + " | ";
        due(what + "run", x.run(n), MachineCore.DONE);
        for (String part : after.trim().split("\\s+")) {
            if (part.isEmpty()) {
                continue;
            }
            String[] two = part.split("=");
            if (two[0].startsWith("[")) {
                int place = Integer.parseInt(two[0].substring(1, two[0].length() - 1), 16);
                int[] due = bytes(two[1]);
                for (int i = 0; i < due.length; i++) {
                    due(what + Integer.toHexString(place + i), x.byteAt(place + i), due[i]);
                }
            } else {
                want[numberOf(two[0])] = Integer.parseInt(two[1], 16);
            }
        }
        for (int i = 0; i < 14; i++) {
            due(what + NAMES[i], x.get(i), want[i]);
        }
        due(what + "steps", x.count(0), n);
    }

    /** A NO CODE: IP and all other registers stay, no byte is written, and it is no step. */
    static void noCode(String code, String before) {
        MachineCore x = machine(code);
        prepare(x, before);
        int[] want = new int[14];
        for (int i = 0; i < 14; i++) {
            want[i] = x.get(i);
        }
        int pages = x.count(1);
        String what = code + " | " + before + " | ";
        due(what + "run", x.run(1), MachineCore.NO_CODE);
        due(what + "run again", x.run(500), MachineCore.NO_CODE);
        for (int i = 0; i < 14; i++) {
            due(what + NAMES[i], x.get(i), want[i]);
        }
        due(what + "steps", x.count(0), 0);
        due(what + "pages", x.count(1), pages);
        due(what + "repetitions", x.count(3), 0);
    }
}

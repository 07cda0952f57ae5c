/** Promise 10: count. */
public final class CountTest {
    public static void main(String[] args) {
        MachineCore x = Checks.machine("F3 AA F3 AA AA F2 AE CD 21 90");
        x.set(1, 70);
        x.set(13, 512);
        x.write(0x84, 0x1A000010);
        x.write(0x24, 0x00000050);
        Checks.due("steps", x.count(0), 0);
        Checks.due("pages", x.count(1), 2);
        x.run(1);
        Checks.due("one step", x.count(0), 1);
        Checks.due("64 repetitions", x.count(3), 64);
        x.run(1);
        Checks.due("two steps", x.count(0), 2);
        Checks.due("70 repetitions", x.count(3), 70);
        x.run(1);
        Checks.due("no C, no repetition", x.count(3), 70);
        x.run(1);
        Checks.due("without REPEAT none", x.count(3), 70);
        Checks.due("a page by strings", x.count(1), 3);
        x.set(1, 5);
        x.set(7, 0);
        x.run(1);
        Checks.due("ended at the first", x.count(3), 71);
        x.run(1);
        Checks.due("a called interrupt is one step", x.count(0), 6);
        Checks.due("the stack's page", x.count(1), 4);
        x.set(13, 512);
        x.line(9);
        x.run(1);
        Checks.due("an interrupt, too", x.count(0), 7);
        Checks.due("lost", x.count(2), 0);
        int[] none = {-1, 4, 5, Integer.MIN_VALUE, Integer.MAX_VALUE};
        for (int what : none) {
            int k = 0;
            try {
                x.count(what);
            } catch (IllegalArgumentException e) {
                k = e.getClass() == IllegalArgumentException.class ? 1 : 2;
            }
            Checks.due("count " + what + " throws", k, 1);
        }
        MachineCore y = Checks.machine("F3 AB");
        for (int i = 0; i < 255; i++) {
            y.write(0x50000 + 256 * i, 0);
        }
        y.set(1, 10);
        y.run(1);
        Checks.due("words lost", y.count(2), 20);
        Checks.due("pages", y.count(1), 256);
        Checks.due("they are repetitions all the same", y.count(3), 10);
        Checks.finish();
    }
}

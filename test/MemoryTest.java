/** Promises 4 and 5: write, byteAt; the pages and what is lost (promise 10). */
public final class MemoryTest {
    private static final int END = 1 << 20;

    public static void main(String[] args) {
        order();
        edges();
        pages();
        lostInTheMiddle();
        wordsOverTheEdge();
        Checks.finish();
    }

    private static void order() {
        MachineCore x = new MachineCore();
        x.write(1000, 0x81020384);
        Checks.due("before", x.byteAt(999), 0);
        Checks.due("first", x.byteAt(1000), 0x81);
        Checks.due("second", x.byteAt(1001), 2);
        Checks.due("third", x.byteAt(1002), 3);
        Checks.due("fourth", x.byteAt(1003), 0x84);
        Checks.due("behind", x.byteAt(1004), 0);
        x.write(1002, -1);
        Checks.due("kept", x.byteAt(1001), 2);
        Checks.due("new", x.byteAt(1002), 255);
        x.write(1002, 0);
        Checks.due("0 again", x.byteAt(1003), 0);
    }

    private static void edges() {
        MachineCore x = new MachineCore();
        x.write(0, 0x01020304);
        x.write(END - 4, 0x05060708);
        Checks.due("at 0", x.byteAt(0), 1);
        Checks.due("at the end", x.byteAt(END - 1), 8);
        int[] none = {-1, END - 3, END - 1, END, Integer.MIN_VALUE, Integer.MAX_VALUE};
        for (int place : none) {
            int k = 0;
            try {
                x.write(place, 0x11111111);
            } catch (IndexOutOfBoundsException e) {
                k = e.getClass() == IndexOutOfBoundsException.class ? 1 : 2;
            }
            Checks.due("write " + place + " throws", k, 1);
        }
        int[] noByte = {-1, END, END + 1, Integer.MIN_VALUE, Integer.MAX_VALUE};
        for (int place : noByte) {
            int k = 0;
            try {
                x.byteAt(place);
            } catch (IndexOutOfBoundsException e) {
                k = e.getClass() == IndexOutOfBoundsException.class ? 1 : 2;
            }
            Checks.due("byteAt " + place + " throws", k, 1);
        }
        Checks.due("nothing changed", x.byteAt(END - 1), 8);
        Checks.due("pages", x.count(1), 2);
        Checks.due("lost", x.count(2), 0);
    }

    private static void pages() {
        MachineCore x = new MachineCore();
        x.byteAt(70000);
        Checks.due("looking makes none", x.count(1), 0);
        x.write(256, 0);
        Checks.due("zeros make one", x.count(1), 1);
        x.write(508, 1);
        Checks.due("the same", x.count(1), 1);
        x.write(510, 1);
        Checks.due("over its edge", x.count(1), 2);
        for (int i = 3; i <= 256; i++) {
            x.write(i * 1024, i);
        }
        Checks.due("256", x.count(1), 256);
        Checks.due("none lost yet", x.count(2), 0);
        x.write(END - 4, 0x01010101);
        Checks.due("still 256", x.count(1), 256);
        Checks.due("four lost", x.count(2), 4);
        Checks.due("lost is 0", x.byteAt(END - 1), 0);
        x.write(END - 4, 0);
        Checks.due("eight lost", x.count(2), 8);
        x.write(1024 * 256 + 252, 0x0A0B0C0D);
        Checks.due("pages there are stay", x.byteAt(1024 * 256 + 255), 0x0D);
        for (int i = 256; i >= 3; i -= 5) {
            Checks.due("kept " + i, x.byteAt(i * 1024 + 3) + 256 * x.byteAt(i * 1024 + 2), i);
        }
    }

    private static void lostInTheMiddle() {
        MachineCore x = new MachineCore();
        for (int i = 0; i < 255; i++) {
            x.write(i * 512, -1);
        }
        x.write(0xF00FE, 0x01020304);
        Checks.due("the lower page came", x.byteAt(0xF00FF), 2);
        Checks.due("the other did not", x.byteAt(0xF0100), 0);
        Checks.due("two lost", x.count(2), 2);
        x.set(9, 0);
        x.set(12, 0);
        x.set(10, 0xE000);
        x.set(4, 4);
        x.write(0, 0x50505050);
        x.set(0, 0x1234);
        x.run(1);
        Checks.due("a pushed word is lost", x.count(2), 4);
        Checks.due("as two bytes", x.byteAt(0xE0002), 0);
    }

    private static void wordsOverTheEdge() {
        Checks.step("A3 FF FF", "A=1234", "[3FFFF]=34 [30000]=12 [40000]=00");
        Checks.step("A1 FF FF", "[3FFFC]=00000034 [30000]=12", "A=1234");
        Checks.step("A3 00 00", "A=1234 DATA=FFFF", "[FFFF0]=3412");
        Checks.step("A3 0F 00", "A=1234 DATA=FFFF", "[FFFFF]=34 [00000]=12");
        Checks.step("A3 10 00", "A=1234 DATA=FFFF", "[00000]=3412");
        Checks.step("A2 FF FF", "A=1234 DATA=FFFF", "[0FFEF]=34 [0FFF0]=00");
    }
}

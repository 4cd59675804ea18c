/** The sentences on FILTERS: each one at its edges, their order, and how many there may be. */
public final class EdgesOfFiltersTest {
    private static final int[] BYTES = {0, 1, 15, 16, 127, 128, 240, 254, 255};

    public static void main(String[] args) {
        bitsAreTurned();
        halvesChangePlaces();
        oneMoreWrapsWhenWritten();
        oneLessWrapsWhenRead();
        writtenFromTheLastToTheFirst();
        readFromTheFirstToTheLast();
        readingUndoesWriting();
        outputHasThemToo();
        threeAreTheMost();
        kindsAreOneToThree();
        behindTheLastByteThereIsNothingToFilter();
        Check.end();
    }

    private static int written(int v, int... filters) {
        MachineLoop x = new MachineLoop(100);
        x.file(0, 1);
        for (int kind : filters) {
            x.filter(2, kind);
        }
        x.write(2, (byte) v);
        return x.lies(0, 0);
    }

    private static int read(int lying, int... filters) {
        MachineLoop x = new MachineLoop(100);
        x.file(0, 1);
        x.write(2, (byte) lying);
        x.close(2);
        x.file(0, 0);
        for (int kind : filters) {
            x.filter(2, kind);
        }
        return x.read(2);
    }

    /** "1 each bit is turned (v becomes 255 - v)". */
    private static void bitsAreTurned() {
        for (int v : BYTES) {
            Check.same("filter 1, written " + v, written(v, 1), 255 - v);
            Check.same("filter 1, read " + v, read(v, 1), 255 - v);
        }
    }

    /** "2 the upper and lower four bits change places". */
    private static void halvesChangePlaces() {
        int[] due = {0, 16, 240, 1, 247, 8, 15, 239, 255};
        for (int i = 0; i < BYTES.length; i++) {
            Check.same("filter 2, written " + BYTES[i], written(BYTES[i], 2), due[i]);
            Check.same("filter 2, read " + BYTES[i], read(BYTES[i], 2), due[i]);
        }
    }

    /** "3 written: 1 more modulo 256". */
    private static void oneMoreWrapsWhenWritten() {
        int[] due = {1, 2, 16, 17, 128, 129, 241, 255, 0};
        for (int i = 0; i < BYTES.length; i++) {
            Check.same("filter 3, written " + BYTES[i], written(BYTES[i], 3), due[i]);
        }
        Check.same("filter 3 thrice, written 254", written(254, 3, 3, 3), 1);
    }

    /** "read: 1 less". */
    private static void oneLessWrapsWhenRead() {
        int[] due = {255, 0, 14, 15, 126, 127, 239, 253, 254};
        for (int i = 0; i < BYTES.length; i++) {
            Check.same("filter 3, read " + BYTES[i], read(BYTES[i], 3), due[i]);
        }
        Check.same("filter 3 thrice, read 1", read(1, 3, 3, 3), 254);
    }

    /** "What is written goes through them from the last to the first". */
    private static void writtenFromTheLastToTheFirst() {
        Check.same("3, 1 written", written(5, 3, 1), 251);
        Check.same("1, 3 written", written(5, 1, 3), 249);
        Check.same("3, 2 written", written(0x1f, 3, 2), 0xf2);
        Check.same("2, 3 written", written(0x1f, 2, 3), 0x02);
        Check.same("1, 2, 3 written", written(65, 1, 2, 3), 219);
        Check.same("3, 2, 1 written", written(65, 3, 2, 1), 236);
    }

    /** "what is read, behind that, from the first to the last". */
    private static void readFromTheFirstToTheLast() {
        Check.same("3, 1 read", read(5, 3, 1), 251);
        Check.same("1, 3 read", read(5, 1, 3), 249);
        Check.same("3, 2 read", read(0x10, 3, 2), 0xf0);
        Check.same("2, 3 read", read(0x10, 2, 3), 0x00);
        Check.same("1, 2, 3 read", read(219, 1, 2, 3), 65);
        Check.same("3, 2, 1 read", read(219, 3, 2, 1), 82);
    }

    private static void readingUndoesWriting() {
        for (int i = 0; i < 27; i++) {
            int[] filters = {1 + i / 9, 1 + i / 3 % 3, 1 + i % 3};
            for (int v : BYTES) {
                Check.same("filters " + i + ", written and read " + v, read(written(v, filters), filters), v);
            }
        }
    }

    /** "OUTPUT has them, too", by calls and by jobs; those that a job put on it end with it. */
    private static void outputHasThemToo() {
        MachineLoop x = new MachineLoop(100);
        x.filter(1, 1);
        x.filter(1, 3);
        x.write(1, (byte) 5);
        Check.same("output(0)", x.output(0), 249);
        Check.ended(x, Check.ran(x, "12f15w"), "12f15w", 1, 0, 0, 0, 6, 0);
        Check.same("output(1)", x.output(1), 255 - 0x51);
        x.write(1, (byte) 5);
        Check.same("output(2)", x.output(2), 249);
    }

    /** "and at most 3 FILTERS". */
    private static void threeAreTheMost() {
        MachineLoop x = new MachineLoop(100);
        x.file(0, 1);
        for (int handle = 1; handle <= 2; handle++) {
            for (int count = 1; count <= 3; count++) {
                Check.same("filter(" + handle + ", 3)", x.filter(handle, 3), count);
            }
            Check.same("filter(" + handle + ", 3) of 3", x.filter(handle, 3), -4);
            Check.fails(x, handle + "3f", 4, 2, 3);
            x.write(handle, (byte) 10);
        }
        Check.same("three on OUTPUT", x.output(0), 13);
        Check.same("three on a file", x.lies(0, 0), 13);
        Check.fails("13f13f13f13f", 4, 11, 12);
        Check.fails("01od3fd3fd3fd3f", 4, 14, 15);
    }

    private static void kindsAreOneToThree() {
        for (int kind : new int[] {0, 4, -1, Integer.MIN_VALUE, Integer.MAX_VALUE, 257}) {
            MachineLoop x = new MachineLoop(100);
            Check.same("filter(1, " + kind + ")", x.filter(1, kind), -2);
            String signs = "1" + Check.number(kind) + "f";
            Check.fails(x, signs, 4, signs.length() - 1, signs.length());
            x.write(1, (byte) 9);
            Check.same("output(0)", x.output(0), 9);
        }
    }

    private static void behindTheLastByteThereIsNothingToFilter() {
        for (int kind = 1; kind <= 3; kind++) {
            MachineLoop x = new MachineLoop(100);
            x.file(0, 1);
            x.close(2);
            x.file(0, 0);
            x.filter(2, kind);
            Check.same("read behind the last with filter " + kind, x.read(2), 256);
            Check.pages(x, Check.ran(x, "2rms"), "2rms", -1);
        }
    }
}

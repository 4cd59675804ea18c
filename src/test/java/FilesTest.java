/** Promises 10 to 14, 16 and 17: files, handles, filters, OUTPUT. */
public final class FilesTest {
    private static final int[] NO_HANDLE = {-1, 0, 8, Integer.MIN_VALUE, Integer.MAX_VALUE};

    public static void main(String[] args) {
        openingRefuses();
        openingSharesFilesForReadingAlone();
        openingTakesTheLeastHandle();
        noHandleIsFree();
        modesKeepOrEmptyFiles();
        writingRefuses();
        filesBecomeFull();
        outputBecomesFull();
        readingRefuses();
        readingGoesOn();
        filtersRefuse();
        filtersChangeWhatIsWritten();
        filtersChangeWhatIsRead();
        closingRefuses();
        closingTakesFiltersOff();
        bytesThatAreNotThere();
        Check.end();
    }

    private static void openingRefuses() {
        MachineLoop x = new MachineLoop(100);
        int[] names = {-1, 10, Integer.MIN_VALUE, Integer.MAX_VALUE};
        for (int name : names) {
            Check.same("file(" + name + ", 0)", x.file(name, 0), -1);
            Check.same("file(" + name + ", 3)", x.file(name, 3), -1);
        }
        int[] modes = {-1, 3, Integer.MIN_VALUE, Integer.MAX_VALUE};
        for (int mode : modes) {
            Check.same("file(0, " + mode + ")", x.file(0, mode), -2);
        }
        Check.same("file(0, 0) not there", x.file(0, 0), -3);
        Check.same("file(0, 0) still not there", x.file(0, 0), -3);
    }

    private static void openingSharesFilesForReadingAlone() {
        for (int mode = 1; mode <= 2; mode++) {
            MachineLoop x = new MachineLoop(100);
            Check.same("file made by mode " + mode, x.file(5, mode), 2);
            for (int again = 0; again < 3; again++) {
                Check.same("file open with " + mode + ", again with " + again, x.file(5, again), -3);
            }
            Check.same("close", x.close(2), 1);
            Check.same("read once", x.file(5, 0), 2);
            Check.same("read twice", x.file(5, 0), 3);
            Check.same("write what is read", x.file(5, 1), -3);
            Check.same("go on with what is read", x.file(5, 2), -3);
            x.close(2);
            Check.same("write what is still read", x.file(5, 1), -3);
            x.close(3);
            Check.same("write what is not open", x.file(5, mode), 2);
        }
    }

    private static void openingTakesTheLeastHandle() {
        MachineLoop x = new MachineLoop(100);
        for (int name = 0; name < 6; name++) {
            Check.same("file(" + name + ", 1)", x.file(name, 1), name + 2);
        }
        x.close(6);
        x.close(3);
        Check.same("the least one", x.file(8, 1), 3);
        Check.same("the next one", x.file(9, 1), 6);
    }

    private static void noHandleIsFree() {
        MachineLoop x = new MachineLoop(100);
        x.file(9, 1);
        x.write(2, (byte) 1);
        x.close(2);
        for (int name = 0; name < 6; name++) {
            x.file(name, 2);
        }
        Check.same("no handle for reading", x.file(9, 0), -4);
        Check.same("no handle for writing", x.file(9, 1), -4);
        Check.same("no handle for a new one", x.file(8, 1), -4);
        Check.same("what is open first", x.file(0, 1), -3);
        Check.same("what is not there first", x.file(8, 0), -3);
        Check.same("no name first", x.file(10, 0), -1);
        Check.same("no mode first", x.file(8, 3), -2);
        Check.same("the file is not emptied", x.lies(9, 0), 1);
        x.close(4);
        Check.same("the file was not made", x.file(8, 0), -3);
        Check.same("a handle is free", x.file(9, 0), 4);
    }

    private static void modesKeepOrEmptyFiles() {
        MachineLoop x = new MachineLoop(100);
        x.file(1, 2);
        x.write(2, (byte) 10);
        x.close(2);
        x.file(1, 2);
        x.write(2, (byte) 11);
        x.close(2);
        Check.same("lies(1, 0)", x.lies(1, 0), 10);
        Check.same("lies(1, 1)", x.lies(1, 1), 11);
        Check.same("lies(1, 2)", x.lies(1, 2), -1);
        x.file(1, 1);
        Check.same("emptied", x.lies(1, 0), -1);
        x.write(2, (byte) 12);
        Check.same("lies(1, 0) anew", x.lies(1, 0), 12);
        Check.same("lies(1, 1) anew", x.lies(1, 1), -1);
        x.close(2);
        x.file(2, 1);
        x.close(2);
        Check.same("an empty file is there", x.file(2, 0), 2);
        Check.same("and has nothing", x.read(2), 256);
    }

    private static void writingRefuses() {
        MachineLoop x = new MachineLoop(100);
        for (int handle : NO_HANDLE) {
            Check.same("write(" + handle + ")", x.write(handle, (byte) 1), -1);
        }
        Check.same("write(2) not open", x.write(2, (byte) 1), -1);
        x.file(0, 1);
        x.close(2);
        Check.same("write(2) closed", x.write(2, (byte) 1), -1);
        x.file(0, 0);
        Check.same("write(2) for reading", x.write(2, (byte) 1), -3);
        Check.same("nothing was written", x.lies(0, 0), -1);
    }

    private static void filesBecomeFull() {
        MachineLoop x = new MachineLoop(20000);
        x.file(7, 1);
        for (int i = 0; i < 100; i++) {
            Check.same("write(2) " + i, x.write(2, (byte) (200 + i)), 1);
        }
        Check.same("write(2) of 100", x.write(2, (byte) 1), -4);
        Check.same("write(2) of 100 again", x.write(2, (byte) 1), -4);
        for (int i = 0; i < 100; i++) {
            Check.same("lies(7, " + i + ")", x.lies(7, i), (200 + i) & 255);
        }
        Check.same("lies(7, 100)", x.lies(7, 100), -1);
        x.close(2);
        Check.same("going on with a full one", x.file(7, 2), 2);
        Check.same("write there", x.write(2, (byte) 1), -4);
        x.close(2);
        x.file(7, 0);
        Check.same("write(2) full, for reading", x.write(2, (byte) 1), -3);
        for (int i = 0; i < 100; i++) {
            Check.same("read(2) " + i, x.read(2), (200 + i) & 255);
        }
        Check.same("read(2) behind", x.read(2), 256);
    }

    private static void outputBecomesFull() {
        MachineLoop x = new MachineLoop(20000);
        Check.ran(x, "0 4tt1-{1+d1xw}");
        Check.same("output(398)", x.output(398), 399 & 255);
        Check.same("output(399)", x.output(399), -1);
        Check.same("write(1)", x.write(1, (byte) -1), 1);
        Check.same("output(399) now", x.output(399), 255);
        Check.same("write(1) of 400", x.write(1, (byte) 1), -4);
        Check.same("output(400)", x.output(400), -1);
        Check.fails(x, "11w", 4, 2, 3);
        Check.same("filter on a full one", x.filter(1, 1), 1);
        Check.same("output stays", x.output(0), 1);
    }

    private static void readingRefuses() {
        MachineLoop x = new MachineLoop(100);
        for (int handle : NO_HANDLE) {
            Check.same("read(" + handle + ")", x.read(handle), -1);
        }
        Check.same("read(1)", x.read(1), -3);
        Check.same("read(2)", x.read(2), -1);
        x.file(0, 1);
        Check.same("read(2) for writing", x.read(2), -3);
        x.close(2);
        x.file(0, 2);
        Check.same("read(2) going on", x.read(2), -3);
        x.close(2);
        Check.same("read(2) closed", x.read(2), -1);
    }

    private static void readingGoesOn() {
        MachineLoop x = new MachineLoop(100);
        x.file(0, 1);
        x.write(2, (byte) 0);
        x.write(2, (byte) 127);
        x.write(2, (byte) -128);
        x.close(2);
        x.file(0, 0);
        x.file(0, 0);
        Check.same("read(2)", x.read(2), 0);
        Check.same("read(2)", x.read(2), 127);
        Check.same("read(3) has its own place", x.read(3), 0);
        Check.same("read(2)", x.read(2), 128);
        Check.same("read(2) behind", x.read(2), 256);
        Check.same("read(2) behind again", x.read(2), 256);
        x.close(2);
        x.file(0, 0);
        Check.same("read(2) opened anew", x.read(2), 0);
    }

    private static void filtersRefuse() {
        MachineLoop x = new MachineLoop(100);
        for (int handle : NO_HANDLE) {
            Check.same("filter(" + handle + ", 1)", x.filter(handle, 1), -1);
            Check.same("filter(" + handle + ", 4)", x.filter(handle, 4), -1);
        }
        Check.same("filter(2, 1) not open", x.filter(2, 1), -1);
        int[] kinds = {0, 4, -1, Integer.MIN_VALUE, Integer.MAX_VALUE};
        for (int kind : kinds) {
            Check.same("filter(1, " + kind + ")", x.filter(1, kind), -2);
        }
        for (int i = 1; i <= 3; i++) {
            Check.same("filter(1, " + i + ")", x.filter(1, i), i);
        }
        Check.same("filter(1, 1) of 3", x.filter(1, 1), -4);
        Check.same("filter(1, 4) of 3", x.filter(1, 4), -2);
        Check.fails(x, "11f", 4, 2, 3);
    }

    private static void filtersChangeWhatIsWritten() {
        for (int v = 0; v < 256; v += 51) {
            MachineLoop x = new MachineLoop(100);
            for (int name = 0; name < 3; name++) {
                x.file(name, 1);
                x.filter(name + 2, name + 1);
                x.write(name + 2, (byte) v);
            }
            Check.same("bits turned", x.lies(0, 0), 255 - v);
            Check.same("halves changed", x.lies(1, 0), v / 16 + v % 16 * 16);
            Check.same("one more", x.lies(2, 0), (v + 1) % 256);
        }
        MachineLoop x = new MachineLoop(100);
        x.filter(1, 3);
        x.filter(1, 2);
        x.write(1, (byte) 0x1f);
        Check.same("the last one first", x.output(0), 0xf2);
        x.filter(1, 3);
        x.write(1, (byte) 0x1f);
        Check.same("a filter twice", x.output(1), 0x03);
        Check.same("what was written before", x.output(0), 0xf2);
    }

    private static void filtersChangeWhatIsRead() {
        MachineLoop x = new MachineLoop(100);
        x.file(0, 1);
        x.write(2, (byte) 0);
        x.write(2, (byte) 0x1f);
        x.write(2, (byte) 0x1f);
        x.close(2);
        x.file(0, 0);
        x.filter(2, 3);
        Check.same("one less", x.read(2), 255);
        x.filter(2, 2);
        Check.same("the first one first", x.read(2), 0xe1);
        x.filter(2, 1);
        Check.same("three", x.read(2), 0x1e);
        Check.same("behind the last", x.read(2), 256);
    }

    private static void closingRefuses() {
        MachineLoop x = new MachineLoop(100);
        for (int handle : NO_HANDLE) {
            Check.same("close(" + handle + ")", x.close(handle), -1);
        }
        Check.same("close(1)", x.close(1), -3);
        Check.same("OUTPUT is still open", x.write(1, (byte) 3), 1);
        Check.same("close(2)", x.close(2), -1);
        x.file(0, 1);
        Check.same("close(2) open", x.close(2), 1);
        Check.same("close(2) again", x.close(2), -1);
    }

    private static void closingTakesFiltersOff() {
        MachineLoop x = new MachineLoop(100);
        x.file(0, 1);
        x.filter(2, 1);
        x.filter(2, 1);
        x.close(2);
        x.file(0, 1);
        Check.same("filter(2, 3) is the first", x.filter(2, 3), 1);
        x.write(2, (byte) 4);
        Check.same("lies(0, 0)", x.lies(0, 0), 5);
        x.filter(1, 3);
        x.close(1);
        x.write(1, (byte) 4);
        Check.same("those of OUTPUT stay", x.output(0), 5);
    }

    private static void bytesThatAreNotThere() {
        MachineLoop x = new MachineLoop(100);
        x.write(1, (byte) -1);
        x.file(9, 1);
        x.write(2, (byte) -2);
        Check.same("output(0)", x.output(0), 255);
        Check.same("lies(9, 0)", x.lies(9, 0), 254);
        int[] none = {-1, 1, 100, 400, Integer.MIN_VALUE, Integer.MAX_VALUE};
        for (int i : none) {
            Check.same("output(" + i + ")", x.output(i), -1);
            Check.same("lies(9, " + i + ")", x.lies(9, i), -1);
        }
        int[] names = {-1, 10, 8, Integer.MIN_VALUE, Integer.MAX_VALUE};
        for (int name : names) {
            Check.same("lies(" + name + ", 0)", x.lies(name, 0), -1);
        }
    }
}

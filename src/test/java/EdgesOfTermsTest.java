/** The Terms, sentence by sentence: the least and the most of everything that they bound. */
public final class EdgesOfTermsTest {
    private static final int LEAST = Integer.MIN_VALUE;
    private static final int MOST = Integer.MAX_VALUE;

    public static void main(String[] args) {
        objectsAreGoodFor512Calls();
        sumsWrap();
        differencesWrap();
        productsWrap();
        tensWrap();
        marksWrap();
        copiesAreOneAtFirst();
        policyIsZeroAtFirst();
        settingsHaveBoundsForCallsAndJobs();
        categoriesAndNamesHaveBoundsForCallsAndJobs();
        valuesHaveBoundsForCallsAndJobs();
        noResourceIsThereAtFirst();
        fileNamesHaveBoundsForCallsAndJobs();
        modesHaveBoundsForCallsAndJobs();
        noFileIsThereAtFirst();
        filesHoldOneHundredBytes();
        outputHoldsFourHundredBytes();
        outputIsWrittenAlone();
        outputIsAlwaysOpen();
        handlesAreTwoToSeven();
        openingTakesTheLeastHandleThatIsNotOpen();
        readingBeginsAtPlaceZero();
        writingMakesAFileOrEmptiesIt();
        goingOnMakesAFileOrKeepsIt();
        whatIsWrittenIsNotOpenedAgain();
        whatIsOpenIsNotWritten();
        Check.end();
    }

    /** "An object is used for at most 512 calls": the last of them is answered as the first. */
    private static void objectsAreGoodFor512Calls() {
        MachineLoop x = new MachineLoop(20000);
        int calls = 1;
        x.job();
        for (int i = 0; i < 200; i++) {
            x.add(0, (byte) "3m".charAt(i % 2));
            calls++;
        }
        Check.same("run()", x.run(), 1);
        calls++;
        for (; calls < 510; calls++) {
            Check.same("write(1) as call " + calls, x.write(1, (byte) calls), 1);
        }
        Check.same("the call 511", x.output(306), 508 & 255);
        Check.same("the call 512", x.ended(0, 4), 200);
    }

    private static void pageOf(String signs, int marks) {
        Check.shows(signs + "ms", signs.length() + 2, marks);
    }

    /** "NUMBERS are of 32 bits, wrapping": a b +. */
    private static void sumsWrap() {
        pageOf(Check.number(MOST) + "0+", MOST);
        pageOf(Check.number(MOST) + "1+", LEAST);
        pageOf(Check.number(LEAST) + Check.number(-1) + "+", MOST);
        pageOf(Check.number(LEAST) + "d+", 0);
        pageOf(Check.number(MOST) + "d+", -2);
    }

    /** "NUMBERS are of 32 bits, wrapping": a b -. */
    private static void differencesWrap() {
        pageOf(Check.number(LEAST) + "0-", LEAST);
        pageOf(Check.number(LEAST) + "1-", MOST);
        pageOf("0" + Check.number(LEAST) + "-", LEAST);
        pageOf(Check.number(MOST) + Check.number(-1) + "-", LEAST);
    }

    /** "NUMBERS are of 32 bits, wrapping": a b *. */
    private static void productsWrap() {
        pageOf(Check.number(46340) + "d*", 2147395600);
        pageOf(Check.number(46341) + "d*", -2147479015);
        pageOf(Check.number(65536) + "d*", 0);
        pageOf(Check.number(LEAST) + Check.number(-1) + "*", LEAST);
        pageOf(Check.number(MOST) + "d*", 1);
    }

    /** "NUMBERS are of 32 bits, wrapping": a t. */
    private static void tensWrap() {
        pageOf(Check.number(214748364) + "t", 2147483640);
        pageOf(Check.number(214748365) + "t", -2147483646);
        pageOf(Check.number(-214748364) + "t", -2147483640);
        pageOf(Check.number(-214748365) + "t", 2147483646);
        pageOf(Check.number(LEAST) + "t", 0);
    }

    /** "NUMBERS are of 32 bits, wrapping": MARKS, which become 31 times them and v. */
    private static void marksWrap() {
        pageOf(Check.number(69273666) + "m" + "1", 2147483647);
        pageOf(Check.number(69273666) + "m" + "2", -2147483648);
        pageOf(Check.number(69273667) + "m" + "0", -2147483619);
        pageOf(Check.number(-69273666) + "m" + Check.number(-3), 2147483647);
        pageOf(Check.number(MOST) + "m" + "0", 2147483617);
    }

    /** "1 COPIES (1 .. 9; 1)". */
    private static void copiesAreOneAtFirst() {
        MachineLoop x = new MachineLoop(10);
        Check.same("pages of a new object", x.ended(Check.ran(x, "s"), 3), 1);
    }

    /** "3 POLICY (0, 1; 0)". */
    private static void policyIsZeroAtFirst() {
        Check.fails("10g", 3, 2, 3);
    }

    /** "0 SIZE (0 .. 3 ..), 1 COPIES (1 .. 9 ..), 2 SIDES (0, 1 ..), 3 POLICY (0, 1 ..)". */
    private static void settingsHaveBoundsForCallsAndJobs() {
        int[] least = {0, 1, 0, 0};
        int[] most = {3, 9, 1, 1};
        for (int setting = 0; setting < 4; setting++) {
            setting(setting, least[setting], true);
            setting(setting, most[setting], true);
            setting(setting, least[setting] - 1, false);
            setting(setting, most[setting] + 1, false);
            setting(setting, LEAST, false);
            setting(setting, MOST, false);
            setting(setting, 256 + most[setting], false);
        }
        for (int none : new int[] {-1, 4, LEAST, MOST, 256, 257, -4}) {
            setting(none, 0, false);
            setting(none, 1, false);
        }
    }

    private static void setting(int setting, int v, boolean isFine) {
        MachineLoop x = new MachineLoop(1000);
        String signs = Check.number(setting) + Check.number(v) + "g";
        int job = Check.ran(x, signs);
        Check.same("error of " + signs, x.ended(job, 1), isFine ? 0 : 3);
        Check.same("device(" + setting + ", " + v + ")", x.device(setting, v), isFine ? 1 : 0);
    }

    /** "RESOURCES have a CATEGORY (0 .. 3), a name (0 .. 9)". */
    private static void categoriesAndNamesHaveBoundsForCallsAndJobs() {
        for (int category : new int[] {0, 3}) {
            resource(category, 0, true);
            resource(category, 9, true);
        }
        for (int wrong : new int[] {-1, 4, LEAST, MOST, 256}) {
            resource(wrong, 0, false);
            resource(wrong, 9, false);
        }
        for (int wrong : new int[] {-1, 10, LEAST, MOST, 256}) {
            resource(0, wrong, false);
            resource(3, wrong, false);
            resource(1, wrong, false);
        }
        resource(-1, 10, false);
        resource(4, -1, false);
    }

    private static void resource(int category, int name, boolean isKnown) {
        MachineLoop x = new MachineLoop(1000);
        String which = Check.number(category) + Check.number(name);
        Check.same("resource(" + category + ", " + name + ")", x.resource(category, name), isKnown ? -3 : -1);
        Check.same("define(" + category + ", " + name + ")", x.define(category, name, 5), isKnown ? 1 : -1);
        int getting = Check.ran(x, which + "Rms");
        Check.same("error of " + which + "R", x.ended(getting, 1), isKnown ? 0 : 2);
        Check.same("what " + which + "R lays", x.page(getting, 0), isKnown ? 5 : 0);
        Check.same("error of " + which + "8D", x.ended(Check.ran(x, which + "8D"), 1), isKnown ? 0 : 2);
    }

    /** "and a value (0 .. 9999)". */
    private static void valuesHaveBoundsForCallsAndJobs() {
        for (int v : new int[] {0, 1, 9998, 9999}) {
            MachineLoop x = new MachineLoop(1000);
            Check.same("define of " + v, x.define(1, 2, v), 1);
            Check.same("resource of " + v, x.resource(1, 2), v);
            Check.pages(x, Check.ran(x, "34" + Check.number(v) + "D34Rms"), "D of " + v, v);
        }
        for (int v : new int[] {-1, 10000, LEAST, MOST, 65536}) {
            MachineLoop x = new MachineLoop(1000);
            Check.same("define of " + v, x.define(1, 2, v), -2);
            String signs = "12" + Check.number(v) + "D";
            Check.fails(x, signs, 2, signs.length() - 1, signs.length());
            Check.same("resource after " + v, x.resource(1, 2), -3);
        }
    }

    /** "none is there at first" (RESOURCES). */
    private static void noResourceIsThereAtFirst() {
        MachineLoop x = new MachineLoop(1000);
        for (int i = 0; i < 40; i++) {
            Check.same("resource " + i, x.resource(i / 10, i % 10), -3);
            Check.fails(i / 10 + "" + i % 10 + "R", 2, 2, 3);
        }
    }

    /** "FILES have names 0 .. 9". */
    private static void fileNamesHaveBoundsForCallsAndJobs() {
        for (int name : new int[] {0, 9}) {
            MachineLoop x = new MachineLoop(1000);
            Check.same("file(" + name + ", 1)", x.file(name, 1), 2);
            x.write(2, (byte) 77);
            Check.same("lies(" + name + ", 0)", x.lies(name, 0), 77);
            x.close(2);
            Check.pages(x, Check.ran(x, name + "0odrmrms"), "reading " + name, 31 * 77 - 1);
        }
        for (int name : new int[] {-1, 10, LEAST, MOST, 256}) {
            MachineLoop x = new MachineLoop(1000);
            for (int mode = 0; mode < 3; mode++) {
                Check.same("file(" + name + ", " + mode + ")", x.file(name, mode), -1);
                String signs = Check.number(name) + mode + "o";
                Check.fails(x, signs, 4, signs.length() - 1, signs.length());
            }
            Check.same("lies(" + name + ", 0)", x.lies(name, 0), -1);
        }
    }

    /** "a MODE, 0 reading, 1 writing, 2 going on". */
    private static void modesHaveBoundsForCallsAndJobs() {
        for (int mode : new int[] {-1, 3, LEAST, MOST, 256, 257}) {
            MachineLoop x = new MachineLoop(1000);
            Check.same("file(4, " + mode + ")", x.file(4, mode), -2);
            String signs = "4" + Check.number(mode) + "o";
            Check.fails(x, signs, 4, signs.length() - 1, signs.length());
            Check.same("file(4, 0) was not made", x.file(4, 0), -3);
        }
    }

    /** "none is there at first" (FILES). */
    private static void noFileIsThereAtFirst() {
        MachineLoop x = new MachineLoop(1000);
        for (int name = 0; name < 10; name++) {
            Check.same("file(" + name + ", 0)", x.file(name, 0), -3);
            Check.same("lies(" + name + ", 0)", x.lies(name, 0), -1);
            Check.fails(x, name + "0o", 4, 2, 3);
        }
    }

    /** "and at most 100 bytes": a job and then a call write the last one, and one more. */
    private static void filesHoldOneHundredBytes() {
        for (int mode = 1; mode <= 2; mode++) {
            MachineLoop x = new MachineLoop(20000);
            int most = Check.ran(x, "6" + mode + "o" + Check.number(99) + "{d5w}");
            Check.same("99 bytes with mode " + mode, x.ended(most, 0), 1);
            Check.same("lies(6, 98)", x.lies(6, 98), 5);
            Check.same("lies(6, 99) not yet", x.lies(6, 99), -1);
            x.file(6, 2);
            Check.same("write of byte 100", x.write(2, (byte) 6), 1);
            Check.same("lies(6, 99)", x.lies(6, 99), 6);
            Check.same("write of byte 101", x.write(2, (byte) 7), -4);
            Check.same("lies(6, 100)", x.lies(6, 100), -1);
            Check.fails(x, "28w", 4, 2, 3);
            x.close(2);
            Check.fails(x, "62od9w", 4, 5, 6);
            Check.same("lies(6, 99) stays", x.lies(6, 99), 6);
            Check.same("lies(6, 100) still", x.lies(6, 100), -1);
        }
    }

    /** "1 is OUTPUT, which is written .., 400 bytes at most". */
    private static void outputHoldsFourHundredBytes() {
        MachineLoop x = new MachineLoop(20000);
        Check.same("399 bytes", x.ended(Check.ran(x, Check.number(399) + "{15w}"), 0), 1);
        Check.same("output(398)", x.output(398), 5);
        Check.same("output(399) not yet", x.output(399), -1);
        Check.same("byte 400 by a job", x.ended(Check.ran(x, "16w"), 0), 1);
        Check.same("output(399)", x.output(399), 6);
        Check.same("byte 401 by a call", x.write(1, (byte) 7), -4);
        Check.fails(x, "18w", 4, 2, 3);
        Check.same("output(400)", x.output(400), -1);
        Check.same("output(399) stays", x.output(399), 6);
    }

    /** "1 is OUTPUT, which is written alone": it is not read. */
    private static void outputIsWrittenAlone() {
        MachineLoop x = new MachineLoop(1000);
        x.write(1, (byte) 7);
        Check.same("read(1)", x.read(1), -3);
        Check.fails(x, "1r", 4, 1, 2);
        Check.same("write(1)", x.write(1, (byte) 8), 1);
        Check.same("output(1)", x.output(1), 8);
    }

    /** "and always open": nobody closes it, and no job needs to open it. */
    private static void outputIsAlwaysOpen() {
        MachineLoop x = new MachineLoop(1000);
        Check.same("close(1)", x.close(1), -3);
        Check.fails(x, "1c", 4, 1, 2);
        Check.ended(x, Check.ran(x, "13w"), "13w", 1, 0, 0, 0, 3, 0);
        Check.same("output(0)", x.output(0), 3);
        Check.same("write(1)", x.write(1, (byte) 4), 1);
    }

    /** "others, 2 .. 7, are open or not". */
    private static void handlesAreTwoToSeven() {
        MachineLoop x = new MachineLoop(1000);
        for (int handle = 2; handle <= 7; handle++) {
            noOpenHandle(x, handle);
            Check.same("file(" + handle + ", 1)", x.file(handle, 1), handle);
            Check.same("write(" + handle + ")", x.write(handle, (byte) 1), 1);
        }
        Check.same("an eighth one", x.file(8, 1), -4);
        for (int none : new int[] {-1, 0, 8, 9, LEAST, MOST, 258}) {
            noOpenHandle(x, none);
        }
        for (int handle = 2; handle <= 7; handle++) {
            Check.same("close(" + handle + ")", x.close(handle), 1);
            noOpenHandle(x, handle);
        }
    }

    private static void noOpenHandle(MachineLoop x, int handle) {
        Check.same("write(" + handle + ")", x.write(handle, (byte) 1), -1);
        Check.same("read(" + handle + ")", x.read(handle), -1);
        Check.same("filter(" + handle + ", 1)", x.filter(handle, 1), -1);
        Check.same("close(" + handle + ")", x.close(handle), -1);
        for (String sign : new String[] {"c", "r", "1w", "1f"}) {
            String signs = Check.number(handle) + sign;
            Check.fails(signs, 4, signs.length() - 1, signs.length());
        }
    }

    /** "OPENING: the least HANDLE that is not open". */
    private static void openingTakesTheLeastHandleThatIsNotOpen() {
        MachineLoop x = new MachineLoop(1000);
        for (int name = 0; name < 6; name++) {
            x.file(name, 1);
        }
        for (int handle = 7; handle >= 2; handle--) {
            x.close(handle);
            Check.same("the one that is not open", x.file(9, 1), handle);
            x.close(handle);
        }
        Check.same("the least of all", x.file(9, 1), 2);
        Check.pages(x, Check.ran(x, "81oms"), "the least one beside 2", 3);
    }

    /** "MODE 0: the file is there, the PLACE is 0". */
    private static void readingBeginsAtPlaceZero() {
        MachineLoop x = new MachineLoop(1000);
        x.file(2, 1);
        Check.same("the first byte", x.write(2, (byte) 9), 1);
        x.close(2);
        Check.same("file(2, 0)", x.file(2, 0), 2);
        Check.same("read(2)", x.read(2), 9);
        Check.same("read(2) behind", x.read(2), 256);
        Check.same("file(2, 0) beside it", x.file(2, 0), 3);
        Check.same("read(3)", x.read(3), 9);
        x.close(2);
        Check.same("file(2, 0) anew", x.file(2, 0), 2);
        Check.same("read(2) anew", x.read(2), 9);
        Check.pages(x, Check.ran(x, "20orms"), "20orms", 9);
    }

    /** "1: it is made, or becomes empty". */
    private static void writingMakesAFileOrEmptiesIt() {
        MachineLoop x = new MachineLoop(1000);
        Check.same("file(2, 1) makes it", x.file(2, 1), 2);
        x.write(2, (byte) 9);
        x.close(2);
        Check.same("lies(2, 0)", x.lies(2, 0), 9);
        Check.same("file(2, 1) empties it", x.file(2, 1), 2);
        Check.same("lies(2, 0) emptied", x.lies(2, 0), -1);
        x.close(2);
        Check.same("it is there", x.file(2, 0), 2);
        Check.same("read(2) of none", x.read(2), 256);
    }

    /** "2: it is made if it is not there; what is written goes to the end". */
    private static void goingOnMakesAFileOrKeepsIt() {
        MachineLoop x = new MachineLoop(1000);
        Check.same("file(2, 2) makes it", x.file(2, 2), 2);
        x.close(2);
        Check.same("it is there", x.file(2, 0), 2);
        Check.same("read(2) of none", x.read(2), 256);
        x.close(2);
        x.file(2, 2);
        x.write(2, (byte) 8);
        x.close(2);
        Check.same("file(2, 2) keeps it", x.file(2, 2), 2);
        Check.same("lies(2, 0)", x.lies(2, 0), 8);
        x.write(2, (byte) 9);
        Check.same("lies(2, 0) stays", x.lies(2, 0), 8);
        Check.same("lies(2, 1) behind it", x.lies(2, 1), 9);
    }

    /** "A file that is open with MODE 1 or 2 is not opened again". */
    private static void whatIsWrittenIsNotOpenedAgain() {
        for (int mode = 1; mode <= 2; mode++) {
            for (int again = 0; again <= 2; again++) {
                MachineLoop x = new MachineLoop(1000);
                x.file(2, mode);
                x.write(2, (byte) 9);
                Check.same("file(2, " + again + ") of MODE " + mode, x.file(2, again), -3);
                Check.fails(x, "2" + again + "o", 4, 2, 3);
                Check.fails("2" + mode + "o2" + again + "o", 4, 5, 6);
                Check.same("lies(2, 0)", x.lies(2, 0), 9);
                Check.same("file(3, 1), another one", x.file(3, 1), 3);
            }
        }
    }

    /** "and one that is open not with MODE 1 or 2"; with MODE 0 it is. */
    private static void whatIsOpenIsNotWritten() {
        for (int mode = 1; mode <= 2; mode++) {
            MachineLoop x = new MachineLoop(1000);
            x.file(2, 1);
            x.write(2, (byte) 9);
            x.close(2);
            x.file(2, 0);
            Check.same("file(2, " + mode + ")", x.file(2, mode), -3);
            Check.fails(x, "2" + mode + "o", 4, 2, 3);
            Check.same("lies(2, 0)", x.lies(2, 0), 9);
            for (int handle = 3; handle <= 7; handle++) {
                Check.same("file(2, 0) of " + handle, x.file(2, 0), handle);
            }
        }
    }
}

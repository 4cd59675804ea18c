/** The sentences on signs: each one at the edges of what it takes, lays and passes over. */
public final class EdgesOfSignsTest {
    public static void main(String[] args) {
        jobsBeginWithAnEmptyStack();
        jobsBeginWithMarksZero();
        jobsBeginWithNoPages();
        digitsLayZeroToNine();
        signsTakeFromTheTop();
        marksAreZeroBehindAPage();
        pagesAreAsManyAsCopiesSay();
        requestsChangeSettings();
        resourcesAreMadeOrGetTheValue();
        openingLaysTheHandle();
        onlyOwnHandlesAreClosed();
        theLowestEightBitsAreWritten();
        readingLaysZeroTo255();
        readingLaysMinusOneBehindTheLast();
        filtersAreOneMore();
        blocksAreDoneNTimes();
        blocksBelowOneAreNotDone();
        wrappedTimesAreBelowOne();
        bracesGoTogether();
        blocksBeginAndEndAtTheFirstAndLastSign();
        qIsTheEnd();
        remarksGoUpToTen();
        noBraceStandsInARemark();
        blanksAndTensArePassedOver();
        otherBlanksAreOtherSigns();
        behindTheLastSignIsTheEnd();
        Check.end();
    }

    /** "A JOB is RUN from its first sign on with an empty STACK": whatever one before it left. */
    private static void jobsBeginWithAnEmptyStack() {
        Check.fails("p", 5, 0, 1);
        MachineLoop x = new MachineLoop(1000);
        Check.job(x, Check.times(20, "7"));
        Check.job(x, "p");
        Check.job(x, Check.times(20, "7"));
        Check.same("run()", x.run(), 3);
        Check.ended(x, 0, "20 numbers", 1, 0, 0, 0, 20, 0);
        Check.ended(x, 1, "p behind 20 numbers", 2, 5, 0, 0, 1, 0);
        Check.ended(x, 2, "20 numbers behind 20", 1, 0, 0, 0, 20, 0);
    }

    /** "MARKS 0". */
    private static void jobsBeginWithMarksZero() {
        MachineLoop x = new MachineLoop(1000);
        Check.ran(x, "9m8m");
        Check.pages(x, Check.ran(x, "s"), "s behind 9m8m", 0);
    }

    /** "and no pages": those of another job do not count. */
    private static void jobsBeginWithNoPages() {
        MachineLoop x = new MachineLoop(1000);
        for (int i = 0; i < 3; i++) {
            Check.ended(x, Check.ran(x, "4t{s}"), "40 pages", 1, 0, 0, 40, 83, 0);
        }
    }

    private static void digitsLayZeroToNine() {
        for (int d = 0; d <= 9; d++) {
            Check.shows("7" + d + "msms", 6, d, 7);
        }
        Check.fails("/", 1, 0, 1);
        Check.fails(":", 1, 0, 1);
    }

    /** "Others take from it, the last one told here from its top". */
    private static void signsTakeFromTheTop() {
        Check.shows("92-ms", 5, 7);
        Check.shows("92xmsms", 7, 9, 2);
        Check.shows("925pmsms", 8, 2, 9);
        Check.shows("92dmsmsms", 9, 2, 2, 9);
        Check.shows("92tmsms", 7, 20, 9);
        Check.shows("12gs", 4, 0, 0);
        Check.shows("2 135D 13Rmsms", 12, 5, 2);
        Check.shows("9 81omsms", 8, 2, 9);
    }

    /** "s: a PAGE with these MARKS is shown ..; MARKS are 0". */
    private static void marksAreZeroBehindAPage() {
        Check.shows("5mss", 4, 5, 0);
        Check.shows("13g5ms11gs", 10, 5, 5, 5, 0);
        Check.shows("5ms7ms", 6, 5, 7);
    }

    /** "as many as COPIES say". */
    private static void pagesAreAsManyAsCopiesSay() {
        Check.shows("11g6ms", 6, 6);
        Check.shows("19g6ms", 6, 6, 6, 6, 6, 6, 6, 6, 6, 6);
    }

    /** "g q v: SETTING q becomes v", at both bounds of each. */
    private static void requestsChangeSettings() {
        for (String signs : new String[] {"00g", "03g", "11g", "19g", "20g", "21g", "30g", "31g"}) {
            Check.shows(signs, 3);
        }
    }

    /** "D c n v: that RESOURCE is made, or gets the value", R c n: at both bounds of each. */
    private static void resourcesAreMadeOrGetTheValue() {
        for (String which : new String[] {"00", "09", "30", "39"}) {
            Check.shows(which + "0D" + which + "Rms", 9, 0);
            Check.shows(which + "1D" + which + "2D" + which + "Rms", 13, 2);
        }
        Check.shows("00" + Check.number(9999) + "D00Rms", 18, 9999);
    }

    /** "o n k: the file n is OPENED with MODE k: its HANDLE". */
    private static void openingLaysTheHandle() {
        Check.shows("01oms11oms21oms31oms41oms51oms", 30, 2, 3, 4, 5, 6, 7);
        Check.shows("91oms", 5, 2);
    }

    /** "c h: HANDLE h is closed": then it is not open, and the next file gets it. */
    private static void onlyOwnHandlesAreClosed() {
        Check.shows("01o11o2c21oms", 13, 2);
        Check.fails("01oc2c", 4, 5, 6);
        Check.fails("01oc21w", 4, 6, 7);
        MachineLoop x = new MachineLoop(1000);
        x.file(0, 1);
        Check.fails(x, "11o3c2c", 4, 6, 7);
        Check.same("close(2) is still open", x.close(2), 1);
    }

    /** "w h v: the lowest eight bits of v are written". */
    private static void theLowestEightBitsAreWritten() {
        int[] given = {0, 255, 256, 257, 511, -1, -255, -256, -257, Integer.MIN_VALUE, Integer.MAX_VALUE};
        int[] due = {0, 255, 0, 1, 255, 255, 1, 0, 255, 0, 255};
        for (int i = 0; i < given.length; i++) {
            MachineLoop x = new MachineLoop(1000);
            Check.ran(x, "1" + Check.number(given[i]) + "w01o" + Check.number(given[i]) + "w");
            Check.same("w of " + given[i] + " to OUTPUT", x.output(0), due[i]);
            Check.same("w of " + given[i] + " to a file", x.lies(0, 0), due[i]);
        }
    }

    /** "r h: the byte at the PLACE (0 .. 255), which goes on". */
    private static void readingLaysZeroTo255() {
        MachineLoop x = new MachineLoop(1000);
        x.file(0, 1);
        for (int v : new int[] {0, 127, 128, 255}) {
            x.write(2, (byte) v);
        }
        x.close(2);
        Check.pages(x, Check.ran(x, "00o4{drmsp2}"), "r", 0, 127, 128, 255);
    }

    /** "-1 behind the last one", however often. */
    private static void readingLaysMinusOneBehindTheLast() {
        MachineLoop x = new MachineLoop(1000);
        x.file(0, 1);
        x.write(2, (byte) 5);
        x.close(2);
        x.file(0, 0);
        Check.pages(x, Check.ran(x, "2rms2rms2rms"), "r", 5, -1, -1);
        Check.same("read(2) behind the last", x.read(2), 256);
        Check.shows("01oc00orms", 10, -1);
        Check.shows("01od1wc00o2{drmsp2}", 26, 1, -1);
    }

    /** "f h k: a FILTER k more". */
    private static void filtersAreOneMore() {
        MachineLoop x = new MachineLoop(1000);
        Check.ran(x, "10w11f10w12f10w13f10w");
        int[] due = {0, 255, 255, 239};
        for (int i = 0; i < due.length; i++) {
            Check.same("output(" + i + ")", x.output(i), due[i]);
        }
    }

    /** "{ n: all up to the } that goes with it is done n times". */
    private static void blocksAreDoneNTimes() {
        for (int n = 1; n <= 9; n++) {
            Check.shows(n + "{s}", 2 + 2 * n, new int[n]);
        }
        Check.shows("4t{s}", 3 + 2 * 40, new int[40]);
        Check.shows("9t9*{1p}", 5 + 3 * 810);
    }

    /** "(below 1: not at all)". */
    private static void blocksBelowOneAreNotDone() {
        Check.shows("0{!}s", 3, 0);
        Check.shows("01-{!}s", 5, 0);
        for (int n : new int[] {-2, -256, Integer.MIN_VALUE}) {
            String times = Check.number(n);
            Check.shows(times + "{!}s", times.length() + 2, 0);
        }
    }

    private static void wrappedTimesAreBelowOne() {
        String most = Check.number(Integer.MAX_VALUE);
        Check.shows(most + "1+{!}s", most.length() + 4, 0);
        MachineLoop x = new MachineLoop(20000);
        Check.ended(x, Check.ran(x, most + "{}"), "the most times", 3, 0, 0, 0, 20000, 0);
    }

    /** "the } that goes with it": not the first one, if others stand between. */
    private static void bracesGoTogether() {
        Check.shows("0{1{s}s}1{s}", 6, 0);
        Check.shows("2{1{s}0{s}s}", 18, 0, 0, 0, 0);
        Check.shows("1{}1{}0{}0{{}{}}s", 11, 0);
        Check.shows("0" + Check.times(99, "{") + Check.times(99, "}") + "s", 3, 0);
    }

    /** A block may begin with the second and end with the last of 200 signs. */
    private static void blocksBeginAndEndAtTheFirstAndLastSign() {
        Check.shows("2{" + Check.times(197, " ") + "}", 4);
        Check.shows("0{" + Check.times(197, "!") + "}", 2);
        Check.fails("0{" + Check.times(198, "!"), 7, 1, 2);
        Check.fails(Check.times(198, " ") + "1{", 7, 199, 2);
        Check.fails(Check.times(199, "\n") + "}", 1, 199, 1);
    }

    /** "q: the job is at its END", and nothing behind it is done or flushed. */
    private static void qIsTheEnd() {
        Check.shows("q", 1);
        Check.shows("sq!", 2, 0);
        Check.shows("9{9{sq!}!}!", 6, 0);
        Check.shows(Check.times(199, " ") + "q", 1);
        Check.shows("q}", 1);
    }

    /** "% and all up to 10 .. are passed over". */
    private static void remarksGoUpToTen() {
        Check.shows("%", 0);
        Check.shows("%\n", 0);
        Check.shows("%!\ns", 1, 0);
        Check.shows("%%!%\ns", 1, 0);
        Check.shows("s%!" + (char) 13 + "!", 1, 0);
        Check.shows("%" + Check.times(199, "!"), 0);
        Check.fails("%\n!", 1, 2, 1);
        Check.fails("%!\n%!\n!", 1, 6, 1);
        Check.shows("%" + (char) 200 + (char) 0 + (char) 138 + "\ns", 1, 0);
    }

    /** "(no { or } stands there)": braces in a remark go with none. */
    private static void noBraceStandsInARemark() {
        Check.shows("2{%}\ns}", 6, 0, 0);
        Check.shows("2{%{\ns}", 6, 0, 0);
        Check.shows("0{%}\n!}s", 3, 0);
        Check.shows("0{%{\n!}s", 3, 0);
        Check.shows("%}\ns", 1, 0);
        Check.shows("%{\ns", 1, 0);
        Check.fails("1{%}", 7, 1, 2);
        Check.fails("1{%\n%}", 7, 1, 2);
        Check.fails("0{%}", 7, 1, 2);
        Check.fails("%{\n}", 1, 3, 1);
    }

    /** "32 and 10 alone are passed over". */
    private static void blanksAndTensArePassedOver() {
        Check.shows(" ", 0);
        Check.shows("\n", 0);
        Check.shows(Check.times(100, " \n"), 0);
        Check.shows(" 1 \n m \n\n s ", 3, 1);
        Check.shows("2{ \n}", 4);
    }

    /** "32 and 10 alone": a tab, 13 and 0 are other signs. */
    private static void otherBlanksAreOtherSigns() {
        for (int sign : new int[] {0, 9, 11, 13, 31, 33, 127, 128, 160}) {
            Check.fails("s" + (char) sign, 1, 1, 2);
        }
    }

    /** "Behind the last sign it is at its END, too". */
    private static void behindTheLastSignIsTheEnd() {
        Check.shows("", 0);
        Check.shows("1", 1);
        Check.shows("1{}", 3);
        Check.shows("0{}", 2);
        Check.shows(Check.times(100, "1p"), 200);
    }
}

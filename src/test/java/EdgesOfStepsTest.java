/** The sentences on STEPS: what is one, what is none, and where a job just ends or just stops. */
public final class EdgesOfStepsTest {
    private static final int END = 1;
    private static final int ERROR = 2;

    public static void main(String[] args) {
        eachSignIsOne();
        theOneThatHasAnErrorIsOne();
        qIsOne();
        closingBracesAreOneEachTime();
        openBracesAreOneEachTime();
        thosePassedOverAreNone();
        jobsStopWhenTheyWouldDoOneMore();
        jobsAtTheirEndDoNotStop();
        whatAStoppedJobDidStays();
        eachJobHasItsOwnSteps();
        noStepsAtAll();
        Check.end();
    }

    /** "each sign that is done is one". */
    private static void eachSignIsOne() {
        Check.takes("1", 1, END);
        Check.takes("12+t3-d*5xpms", 13, END);
        Check.takes("12g121D12R01od5wdc00or11f", 25, END);
        Check.takes(Check.times(100, "1p"), 200, END);
    }

    /** "(also the one that has an ERROR ..". */
    private static void theOneThatHasAnErrorIsOne() {
        for (String signs : new String[] {"!", "}", "p", "00R", "99g", "00o", Check.times(21, "1"), "1{"}) {
            Check.takes(signs, signs.length(), ERROR);
        }
    }

    /** ".. and q)". */
    private static void qIsOne() {
        Check.takes("q", 1, END);
        Check.takes("1q1", 2, END);
        Check.takes("9{q}", 3, END);
    }

    /** "a } each time that it is come to (also that behind the last time)". */
    private static void closingBracesAreOneEachTime() {
        Check.takes("1{}", 2 + 1, END);
        Check.takes("2{}", 2 + 2, END);
        Check.takes("9{}", 2 + 9, END);
        Check.takes("3{s}", 2 + 3 * 2, END);
        Check.takes("2{3{}}", 2 + 2 * (2 + 3 + 1), END);
    }

    /** "{ each time": each time that it is come to, done or not. */
    private static void openBracesAreOneEachTime() {
        Check.takes("0{}", 2, END);
        Check.takes("3{0{}}", 2 + 3 * 3, END);
        Check.takes("3{1{}}", 2 + 3 * 4, END);
        Check.takes("2{2{0{s}}}", 2 + 2 * (2 + 2 * 3 + 1), END);
    }

    /** "those passed over none": in a block that is not done, blanks, 10 and remarks. */
    private static void thosePassedOverAreNone() {
        Check.takes("0{ssss}", 2, END);
        Check.takes("0{1{s}{}}s", 3, END);
        Check.takes(" \n %!!\n", 0, END);
        Check.takes(" 1 \n%1\n 2 %", 2, END);
        Check.takes("2{ %s\n }", 4, END);
    }

    /** "When the steps of a job are spent, and it would do one more, it STOPS." */
    private static void jobsStopWhenTheyWouldDoOneMore() {
        for (int limit : new int[] {0, 1, 2, 3, 19999, 20000}) {
            MachineLoop x = new MachineLoop(limit);
            String signs = "9ttttt{}";
            Check.ended(x, Check.ran(x, signs), signs + " with " + limit, 3, 0, 0, 0, limit, 0);
        }
        MachineLoop x = new MachineLoop(2);
        Check.ended(x, Check.ran(x, "ss!"), "a wrong sign that is not done", 3, 0, 0, 2, 2, 0);
        Check.ended(x, Check.ran(x, "ssq"), "a q that is not done", 3, 0, 0, 2, 2, 0);
        Check.ended(x, Check.ran(x, "ss  %\n s"), "one more behind those passed over", 3, 0, 0, 2, 2, 0);
        Check.ended(x, Check.ran(x, "1{}"), "a } that is not come to", 3, 0, 0, 0, 2, 0);
        Check.ended(x, Check.ran(x, "0{s}s"), "one more behind a block passed over", 3, 0, 0, 0, 2, 0);
    }

    private static void jobsAtTheirEndDoNotStop() {
        MachineLoop x = new MachineLoop(2);
        Check.ended(x, Check.ran(x, "ss"), "just two", 1, 0, 0, 2, 2, 0);
        Check.ended(x, Check.ran(x, "ss \n%ss"), "two, and what is passed over", 1, 0, 0, 2, 2, 0);
        Check.ended(x, Check.ran(x, "0{s}"), "two, and a block passed over", 1, 0, 0, 0, 2, 0);
        Check.ended(x, Check.ran(x, "sq"), "q as the second", 1, 0, 0, 1, 2, 0);
        Check.ended(x, Check.ran(x, "s!"), "an error as the second", 2, 1, 1, 1, 2, 0);
    }

    private static void whatAStoppedJobDidStays() {
        MachineLoop x = new MachineLoop(6);
        int job = Check.ran(x, "17w5ms18w");
        Check.ended(x, job, "17w5ms18w", 3, 0, 0, 1, 6, 0);
        Check.pages(x, job, "17w5ms18w", 5);
        Check.same("output(0)", x.output(0), 7);
        Check.same("output(1)", x.output(1), -1);
    }

    /** "each may take so many steps": those of one are not taken from another. */
    private static void eachJobHasItsOwnSteps() {
        MachineLoop x = new MachineLoop(3);
        for (int i = 0; i < 20; i++) {
            Check.job(x, i % 2 == 0 ? "sss" : "ssss");
        }
        Check.same("run()", x.run(), 20);
        for (int i = 0; i < 20; i++) {
            Check.ended(x, i, "job " + i, i % 2 == 0 ? 1 : 3, 0, 0, 3, 3, 0);
        }
    }

    private static void noStepsAtAll() {
        MachineLoop x = new MachineLoop(0);
        Check.ended(x, Check.ran(x, ""), "no signs", 1, 0, 0, 0, 0, 0);
        Check.ended(x, Check.ran(x, " \n%!"), "none that is done", 1, 0, 0, 0, 0, 0);
        Check.ended(x, Check.ran(x, "1"), "one", 3, 0, 0, 0, 0, 0);
        Check.ended(x, Check.ran(x, "q"), "q", 3, 0, 0, 0, 0, 0);
        Check.ended(x, Check.ran(x, "!"), "a wrong one", 3, 0, 0, 0, 0, 0);
    }
}

/** Promises 1 to 5 and 15: new objects, jobs, their signs, runs, how they ended, starts. */
public final class JobsTest {
    public static void main(String[] args) {
        newObjectHasNothing();
        stepsOfAllJobsAreBounded();
        jobsAreNumbered();
        signsAreCounted();
        signsAreRefused();
        runTakesWhatWasNotRun();
        startsMayFail();
        endedRefuses();
        endedTellsHow();
        Check.end();
    }

    private static void newObjectHasNothing() {
        MachineLoop x = new MachineLoop(10);
        Check.same("run() of none", x.run(), 0);
        Check.same("ended of none", x.ended(0, 0), -1);
        Check.same("output of none", x.output(0), -1);
        Check.same("starts fail at first", x.startFails(false), false);
        for (int name = 0; name < 10; name++) {
            Check.same("resource(3, " + name + ")", x.resource(3, name), -3);
            Check.same("lies(" + name + ", 0)", x.lies(name, 0), -1);
            Check.same("file(" + name + ", 0)", x.file(name, 0), -3);
        }
        for (int handle = 2; handle < 8; handle++) {
            Check.same("close(" + handle + ")", x.close(handle), -1);
        }
    }

    private static void stepsOfAllJobsAreBounded() {
        String endless = "9ttttttt{}";
        long[] given = {Long.MIN_VALUE, -1, 0, 1, 9, 10, 11, 19999, 20000, 20001, 4294967297L, Long.MAX_VALUE};
        int[] due = {0, 0, 0, 1, 9, 10, 11, 19999, 20000, 20000, 20000, 20000};
        for (int i = 0; i < given.length; i++) {
            MachineLoop x = new MachineLoop(given[i]);
            Check.ended(x, Check.ran(x, endless), endless + " with " + given[i], 3, 0, 0, 0, due[i], 0);
            Check.ended(x, Check.ran(x, endless), endless + " again", 3, 0, 0, 0, due[i], 0);
        }
    }

    private static void jobsAreNumbered() {
        MachineLoop x = new MachineLoop(10);
        for (int i = 0; i < 20; i++) {
            Check.same("job() " + i, x.job(), i);
        }
        Check.same("job() of 20", x.job(), -4);
        Check.same("job() of 20 again", x.job(), -4);
        Check.same("run() of 20", x.run(), 20);
        Check.same("job() of 20 that were run", x.job(), -4);
        Check.same("add to job 20", x.add(20, (byte) '1'), -1);
    }

    private static void signsAreCounted() {
        MachineLoop x = new MachineLoop(1000);
        x.job();
        x.job();
        for (int i = 1; i <= 200; i++) {
            Check.same("add(1) " + i, x.add(1, (byte) (i % 2 == 1 ? '1' : 'm')), i);
        }
        Check.same("add(1) of 200", x.add(1, (byte) 'm'), -4);
        Check.same("add(0) beside it", x.add(0, (byte) 'q'), 1);
        x.run();
        Check.ended(x, 1, "200 signs", 1, 0, 0, 0, 200, 0);
        Check.same("add to a full one that was run", x.add(1, (byte) 'm'), -3);
    }

    private static void signsAreRefused() {
        MachineLoop x = new MachineLoop(1000);
        Check.same("add(0) of none", x.add(0, (byte) '1'), -1);
        x.job();
        int[] unknown = {-1, 1, 19, 20, Integer.MIN_VALUE, Integer.MAX_VALUE};
        for (int job : unknown) {
            Check.same("add(" + job + ")", x.add(job, (byte) '1'), -1);
        }
        Check.same("add(0)", x.add(0, (byte) '1'), 1);
        x.run();
        Check.same("add(0) after run()", x.add(0, (byte) '1'), -3);
        Check.ended(x, 0, "1", 1, 0, 0, 0, 1, 0);
    }

    private static void runTakesWhatWasNotRun() {
        MachineLoop x = new MachineLoop(1000);
        Check.job(x, "11w");
        Check.job(x, "12w");
        Check.same("run() of two", x.run(), 2);
        Check.job(x, "13w");
        Check.same("run() of one more", x.run(), 1);
        Check.same("run() again", x.run(), 0);
        for (int i = 0; i < 3; i++) {
            Check.same("output(" + i + ") in the order of jobs", x.output(i), i + 1);
        }
        Check.same("output(3)", x.output(3), -1);
        x.job();
        Check.same("run() of an empty one", x.run(), 1);
        Check.ended(x, 3, "an empty one", 1, 0, 0, 0, 0, 0);
        Check.same("run() of an empty one again", x.run(), 0);
    }

    private static void startsMayFail() {
        MachineLoop x = new MachineLoop(1000);
        Check.same("startFails(true)", x.startFails(true), false);
        Check.same("startFails(true) again", x.startFails(true), true);
        Check.same("run() of none when starts fail", x.run(), -3);
        int job = Check.job(x, "15w");
        Check.same("run() when starts fail", x.run(), -3);
        Check.ended(x, job, "not run", 0, 0, 0, 0, 0, 0);
        Check.same("output when nothing was run", x.output(0), -1);
        Check.same("add when nothing was run", x.add(job, (byte) 'q'), 4);
        Check.same("startFails(false)", x.startFails(false), true);
        Check.same("startFails(false) again", x.startFails(false), false);
        Check.same("run() when starts do not fail", x.run(), 1);
        Check.ended(x, job, "15wq", 1, 0, 0, 0, 4, 0);
        Check.same("output", x.output(0), 5);
    }

    private static void endedRefuses() {
        MachineLoop x = new MachineLoop(1000);
        x.job();
        int[] unknown = {-1, 1, 20, Integer.MIN_VALUE, Integer.MAX_VALUE};
        for (int n : unknown) {
            Check.same("ended(" + n + ", 0)", x.ended(n, 0), -1);
            Check.same("ended(" + n + ", 6)", x.ended(n, 6), -1);
        }
        int[] outside = {-1, 6, Integer.MIN_VALUE, Integer.MAX_VALUE};
        for (int what : outside) {
            Check.same("ended(0, " + what + ")", x.ended(0, what), -2);
        }
        Check.ended(x, 0, "not run", 0, 0, 0, 0, 0, 0);
    }

    private static void endedTellsHow() {
        MachineLoop x = new MachineLoop(5);
        Check.ended(x, Check.ran(x, "1msq55"), "q", 1, 0, 0, 1, 4, 0);
        Check.ended(x, Check.ran(x, "1mss"), "behind the last", 1, 0, 0, 2, 4, 0);
        Check.ended(x, Check.ran(x, " 1m s + 5%5\n5"), "an error", 2, 5, 6, 1, 4, 6);
        Check.ended(x, Check.ran(x, "+"), "an error at the last sign", 2, 5, 0, 0, 1, 0);
        Check.ended(x, Check.ran(x, "sssssq"), "stopped", 3, 0, 0, 5, 5, 0);
        Check.ended(x, Check.ran(x, "sssss \n % q"), "steps spent at its end", 1, 0, 0, 5, 5, 0);
        Check.ended(x, Check.ran(x, "ssssq"), "q as the last step", 1, 0, 0, 4, 5, 0);
        Check.ended(x, Check.ran(x, "ssss!s"), "an error as the last step", 2, 1, 4, 4, 5, 1);
        Check.ended(x, Check.ran(x, "sssss!"), "no step for the error", 3, 0, 0, 5, 5, 0);
    }
}

/** Promises 1 to 17, sentence by sentence: the least and the most, the empty and the full. */
public final class EdgesOfPromisesTest {
    private static final int LEAST = Integer.MIN_VALUE;
    private static final int MOST = Integer.MAX_VALUE;

    public static void main(String[] args) {
        p1NewObjectsHaveNoJobs();
        p1StepsBelowZeroAreNone();
        p1MoreStepsAre20000();
        p2JobsAreWithoutSigns();
        p2ThereAreTwenty();
        p3SignsAreCounted();
        p3NoSuchJob();
        p3ItWasRun();
        p3ItHas200();
        p4NoJobs();
        p4AllThatWereNotRunInOrder();
        p4StartsFail();
        p5WhatIsZeroToFive();
        p5NotRun();
        p5NoSuchJob();
        p6PagesFromZero();
        p6NoSuchPage();
        p7NoSuchSettingOrOutOfBounds();
        p8ValuesMayChange();
        p8NoSuchResourceOrValue();
        p9NoSuchResourceOrNotThere();
        p10Refusals();
        p11Refusals();
        p12BytesAreZeroTo255();
        p12Refusals();
        p13FiltersAreCounted();
        p13Refusals();
        p14FiltersAreOff();
        p14Refusals();
        p15StartsFailOrNot();
        p16BytesOfOutput();
        p17BytesOfFiles();
        Check.end();
    }

    /** "No jobs". */
    private static void p1NewObjectsHaveNoJobs() {
        MachineLoop x = new MachineLoop(100);
        for (int job = 0; job < 20; job++) {
            Check.same("ended(" + job + ", 0)", x.ended(job, 0), -1);
            Check.same("add(" + job + ")", x.add(job, (byte) '1'), -1);
        }
        Check.same("run()", x.run(), 0);
    }

    /** "each may take so many steps (none below 0". */
    private static void p1StepsBelowZeroAreNone() {
        for (long steps : new long[] {0, -1, -20000, LEAST, LEAST - 1L, Long.MIN_VALUE, -4294967295L}) {
            MachineLoop x = new MachineLoop(steps);
            Check.ended(x, Check.ran(x, "s"), "s with " + steps, 3, 0, 0, 0, 0, 0);
        }
    }

    /** "20000 for more)". */
    private static void p1MoreStepsAre20000() {
        long[] given = {1, 19999, 20000, 20001, 65536, MOST, MOST + 1L, 4294967296L, 4294967301L, Long.MAX_VALUE};
        int[] due = {1, 19999, 20000, 20000, 20000, 20000, 20000, 20000, 20000, 20000};
        for (int i = 0; i < given.length; i++) {
            MachineLoop x = new MachineLoop(given[i]);
            Check.ended(x, Check.ran(x, "9ttttt{}"), "with " + given[i], 3, 0, 0, 0, due[i], 0);
        }
        String just = Check.number(6662) + "{1p}sss";
        Check.takes(just, 20000, 1);
        MachineLoop x = new MachineLoop(20001);
        Check.ended(x, Check.ran(x, just + "s"), "one step too many", 3, 0, 0, 3, 20000, 0);
    }

    /** "A job more, without signs: its number." */
    private static void p2JobsAreWithoutSigns() {
        MachineLoop x = new MachineLoop(100);
        Check.job(x, "sss");
        Check.same("job()", x.job(), 1);
        Check.same("its first sign", x.add(1, (byte) 's'), 1);
        x.run();
        Check.same("pages", x.ended(1, 3), 1);
    }

    /** "-4 there are 20." */
    private static void p2ThereAreTwenty() {
        MachineLoop x = new MachineLoop(100);
        for (int i = 0; i < 20; i++) {
            Check.same("job()", x.job(), i);
        }
        Check.same("job() of 20", x.job(), -4);
        Check.same("add(19)", x.add(19, (byte) 's'), 1);
        Check.same("add(20)", x.add(20, (byte) 's'), -1);
        Check.same("run()", x.run(), 20);
        Check.same("job() of 20 that were RUN", x.job(), -4);
        Check.same("ended(19, 3)", x.ended(19, 3), 1);
        Check.same("ended(20, 0)", x.ended(20, 0), -1);
        Check.same("run() again", x.run(), 0);
    }

    /** "A sign more of a job: how many", for every byte that there is. */
    private static void p3SignsAreCounted() {
        MachineLoop x = new MachineLoop(100);
        x.job();
        x.job();
        for (int b = -128; b < 128; b++) {
            int job = b < 0 ? 0 : 1;
            Check.same("add of " + b, x.add(job, (byte) b), b < 0 ? b + 129 : b + 1);
        }
    }

    /** "-1 there is no such job". */
    private static void p3NoSuchJob() {
        MachineLoop x = new MachineLoop(100);
        Check.same("add(0) of none", x.add(0, (byte) '1'), -1);
        x.job();
        for (int job : new int[] {-1, 1, 20, LEAST, MOST, 256}) {
            Check.same("add(" + job + ")", x.add(job, (byte) '1'), -1);
        }
        Check.same("add(0)", x.add(0, (byte) '1'), 1);
    }

    /** "-3 it was RUN": also if it is empty, failed, or stopped. */
    private static void p3ItWasRun() {
        MachineLoop x = new MachineLoop(2);
        for (String signs : new String[] {"", "s", "!", "sss"}) {
            int job = Check.ran(x, signs);
            int pages = x.ended(job, 3);
            Check.same("add to " + signs, x.add(job, (byte) 's'), -3);
            Check.same("run()", x.run(), 0);
            Check.same("pages of " + signs, x.ended(job, 3), pages);
        }
    }

    /** "-4 it has 200": but -3 once it was RUN. */
    private static void p3ItHas200() {
        MachineLoop x = new MachineLoop(1000);
        x.job();
        for (int i = 1; i < 200; i++) {
            x.add(0, (byte) ' ');
        }
        Check.same("the last one", x.add(0, (byte) 's'), 200);
        Check.same("one more", x.add(0, (byte) '!'), -4);
        Check.same("one more again", x.add(0, (byte) '!'), -4);
        x.run();
        Check.ended(x, 0, "200 signs", 1, 0, 0, 1, 1, 0);
        Check.same("one more when it was RUN", x.add(0, (byte) '!'), -3);
    }

    /** "All jobs that were not RUN yet ..: how many": none. */
    private static void p4NoJobs() {
        MachineLoop x = new MachineLoop(100);
        Check.same("run() of none", x.run(), 0);
        x.job();
        Check.same("run() of an empty one", x.run(), 1);
        Check.same("run() of one that was RUN", x.run(), 0);
    }

    /** "in order": each finds the files and OUTPUT that those before it left. */
    private static void p4AllThatWereNotRunInOrder() {
        MachineLoop x = new MachineLoop(1000);
        for (int i = 0; i < 10; i++) {
            Check.job(x, "12od" + i + "w1" + i + "w");
        }
        Check.same("run()", x.run(), 10);
        for (int i = 10; i < 20; i++) {
            Check.job(x, "12od" + (i - 10) + "tw1" + (i - 10) + "tw");
        }
        Check.same("run() of the others", x.run(), 10);
        for (int i = 0; i < 20; i++) {
            int due = i < 10 ? i : 10 * (i - 10);
            Check.same("output(" + i + ")", x.output(i), due);
            Check.same("lies(1, " + i + ")", x.lies(1, i), due);
        }
        Check.same("output(20)", x.output(20), -1);
    }

    /** "-3 starts fail.": then no job is RUN. */
    private static void p4StartsFail() {
        MachineLoop x = new MachineLoop(100);
        int job = Check.job(x, "s");
        x.startFails(true);
        Check.same("run()", x.run(), -3);
        Check.same("ended(0, 0)", x.ended(job, 0), 0);
        Check.same("add goes on", x.add(job, (byte) 's'), 2);
        x.startFails(false);
        Check.same("run() now", x.run(), 1);
        Check.same("ended(0, 3)", x.ended(job, 3), 2);
        x.startFails(true);
        Check.same("run() of none", x.run(), -3);
        Check.same("ended(0, 0) stays", x.ended(job, 0), 1);
    }

    /** "what = 0 .. 5", "-2 no such what". */
    private static void p5WhatIsZeroToFive() {
        MachineLoop x = new MachineLoop(100);
        Check.ended(x, Check.ran(x, "s !ss"), "s !ss", 2, 1, 2, 1, 2, 2);
        for (int what : new int[] {-1, 6, 7, LEAST, MOST, 256}) {
            Check.same("ended(0, " + what + ")", x.ended(0, what), -2);
        }
    }

    /** "0 not RUN": all is 0 then. */
    private static void p5NotRun() {
        MachineLoop x = new MachineLoop(100);
        Check.ended(x, Check.job(x, "s!"), "not RUN", 0, 0, 0, 0, 0, 0);
        Check.ended(x, Check.job(x, ""), "not RUN and empty", 0, 0, 0, 0, 0, 0);
        Check.same("ended(0, 6)", x.ended(0, 6), -2);
    }

    /** "-1 there is no such job": before what is looked at. */
    private static void p5NoSuchJob() {
        MachineLoop x = new MachineLoop(100);
        Check.same("ended(0, 0) of none", x.ended(0, 0), -1);
        x.job();
        for (int job : new int[] {-1, 1, 20, LEAST, MOST}) {
            for (int what = -1; what <= 6; what++) {
                Check.same("ended(" + job + ", " + what + ")", x.ended(job, what), -1);
            }
        }
    }

    /** "The MARKS of PAGE i (from 0) of a job". */
    private static void p6PagesFromZero() {
        MachineLoop x = new MachineLoop(1000);
        int job = Check.ran(x, "0 4t{1+dms}");
        for (int i = 0; i < 40; i++) {
            Check.same("page(0, " + i + ")", x.page(job, i), i + 1);
        }
        Check.same("page(0, 40)", x.page(job, 40), 0);
    }

    /** "0 if there is none": no such page, no such job, not RUN. */
    private static void p6NoSuchPage() {
        MachineLoop x = new MachineLoop(1000);
        Check.same("page(0, 0) of no job", x.page(0, 0), 0);
        int job = Check.job(x, "5ms");
        Check.same("page(0, 0) not RUN", x.page(job, 0), 0);
        x.run();
        Check.same("page(0, 0)", x.page(job, 0), 5);
        for (int wrong : new int[] {-1, 1, 39, 40, LEAST, MOST, 256}) {
            Check.same("page(0, " + wrong + ")", x.page(0, wrong), 0);
            Check.same("page(" + wrong + ", 0)", x.page(wrong, 0), 0);
            Check.same("page(" + wrong + ", " + wrong + ")", x.page(wrong, wrong), 0);
        }
        int failed = Check.ran(x, "19g4{8ms}7ms");
        Check.same("the last before the error", x.page(failed, 35), 8);
        Check.same("none of the sign that failed", x.page(failed, 36), 0);
    }

    /** "0, changing nothing, for what is none, or out of its bounds." */
    private static void p7NoSuchSettingOrOutOfBounds() {
        MachineLoop x = new MachineLoop(1000);
        Check.same("device(1, 9)", x.device(1, 9), 1);
        for (int v : new int[] {0, 10, -1, LEAST, MOST, 257}) {
            Check.same("device(1, " + v + ")", x.device(1, v), 0);
        }
        Check.same("COPIES stay", x.ended(Check.ran(x, "s"), 3), 9);
        Check.same("device(1, 1)", x.device(1, 1), 1);
        for (int setting : new int[] {-1, 4, 5, LEAST, MOST, 257}) {
            Check.same("device(" + setting + ", 1)", x.device(setting, 1), 0);
        }
        Check.same("COPIES", x.ended(Check.ran(x, "s"), 3), 1);
        Check.same("device(3, 1)", x.device(3, 1), 1);
        Check.same("device(3, 2)", x.device(3, 2), 0);
        Check.same("POLICY stays", x.ended(Check.ran(x, "10g"), 1), 0);
        Check.same("device(3, 0)", x.device(3, 0), 1);
        Check.same("device(3, -1)", x.device(3, -1), 0);
        Check.same("POLICY is 0", x.ended(Check.ran(x, "10g"), 1), 3);
    }

    /** "A RESOURCE is made, or gets another value: 1." */
    private static void p8ValuesMayChange() {
        MachineLoop x = new MachineLoop(100);
        for (int v : new int[] {0, 9999, 1, 1, 0}) {
            Check.same("define(3, 9, " + v + ")", x.define(3, 9, v), 1);
            Check.same("resource(3, 9)", x.resource(3, 9), v);
        }
        Check.same("resource(3, 8) beside it", x.resource(3, 8), -3);
        Check.same("resource(2, 9) beside it", x.resource(2, 9), -3);
    }

    /** "-1 no such CATEGORY or name, -2 the value." */
    private static void p8NoSuchResourceOrValue() {
        MachineLoop x = new MachineLoop(100);
        for (int v : new int[] {0, -1, 10000}) {
            Check.same("define(-1, 0, " + v + ")", x.define(-1, 0, v), -1);
            Check.same("define(4, 0, " + v + ")", x.define(4, 0, v), -1);
            Check.same("define(0, -1, " + v + ")", x.define(0, -1, v), -1);
            Check.same("define(0, 10, " + v + ")", x.define(0, 10, v), -1);
        }
        x.define(0, 0, 7);
        for (int v : new int[] {-1, 10000, LEAST, MOST, 65543}) {
            Check.same("define(0, 0, " + v + ")", x.define(0, 0, v), -2);
            Check.same("resource(0, 0)", x.resource(0, 0), 7);
        }
    }

    /** "-1 no such CATEGORY or name, -3 it is not there." */
    private static void p9NoSuchResourceOrNotThere() {
        MachineLoop x = new MachineLoop(100);
        for (int wrong : new int[] {-1, 10, LEAST, MOST}) {
            Check.same("resource(0, " + wrong + ")", x.resource(0, wrong), -1);
            Check.same("resource(" + wrong + ", 0)", x.resource(wrong, 0), -1);
        }
        Check.same("resource(4, 0)", x.resource(4, 0), -1);
        Check.same("resource(3, 9)", x.resource(3, 9), -3);
        Check.same("resource(0, 0)", x.resource(0, 0), -3);
        Check.ran(x, "001D");
        Check.same("resource(0, 0) behind a job that made it", x.resource(0, 0), -3);
    }

    /** "-1 no such name, -2 no such MODE, -3 .., -4 no HANDLE is free": each before the next. */
    private static void p10Refusals() {
        MachineLoop x = new MachineLoop(100);
        for (int mode = 0; mode <= 3; mode++) {
            Check.same("file(-1, " + mode + ")", x.file(-1, mode), -1);
            Check.same("file(10, " + mode + ")", x.file(10, mode), -1);
        }
        Check.same("file(9, -1)", x.file(9, -1), -2);
        Check.same("file(9, 3)", x.file(9, 3), -2);
        Check.same("file(9, 0) not there", x.file(9, 0), -3);
        x.file(9, 1);
        x.write(2, (byte) 1);
        Check.same("file(9, 0) written", x.file(9, 0), -3);
        x.close(2);
        for (int name = 0; name < 6; name++) {
            Check.same("file(" + name + ", 1)", x.file(name, 1), name + 2);
        }
        Check.same("file(9, 0) without a HANDLE", x.file(9, 0), -4);
        Check.same("file(9, 1) without a HANDLE", x.file(9, 1), -4);
        Check.same("file(9, 2) without a HANDLE", x.file(9, 2), -4);
        Check.same("lies(9, 0) was not emptied", x.lies(9, 0), 1);
        Check.same("file(8, 0) not there", x.file(8, 0), -3);
        Check.same("file(0, 0) written", x.file(0, 0), -3);
        Check.same("file(8, 3)", x.file(8, 3), -2);
        Check.same("file(10, 3)", x.file(10, 3), -1);
        x.close(7);
        Check.same("file(9, 0) with a HANDLE", x.file(9, 0), 7);
    }

    /** "-1 no such open HANDLE, -3 it is for reading, -4 the file has 100, OUTPUT 400." */
    private static void p11Refusals() {
        MachineLoop x = new MachineLoop(20000);
        for (int handle : new int[] {-1, 0, 2, 7, 8, LEAST, MOST}) {
            Check.same("write(" + handle + ")", x.write(handle, (byte) 1), -1);
        }
        Check.ran(x, "01o1tt{d7w}" + Check.number(400) + "{18w}");
        x.file(0, 0);
        Check.same("write(2) for reading and full", x.write(2, (byte) 1), -3);
        x.close(2);
        x.file(0, 2);
        Check.same("write(2) full", x.write(2, (byte) 1), -4);
        Check.same("lies(0, 99)", x.lies(0, 99), 7);
        Check.same("lies(0, 100)", x.lies(0, 100), -1);
        x.close(2);
        x.file(0, 1);
        Check.same("write(2) emptied", x.write(2, (byte) 1), 1);
        Check.same("write(1) full", x.write(1, (byte) 1), -4);
        Check.same("output(399)", x.output(399), 8);
        Check.same("output(400)", x.output(400), -1);
    }

    /** "The byte at the PLACE (0 .. 255), which goes on; 256 behind the last one." */
    private static void p12BytesAreZeroTo255() {
        MachineLoop x = new MachineLoop(100);
        byte[] bytes = {0, 1, 127, -128, -1};
        x.file(5, 1);
        for (byte b : bytes) {
            x.write(2, b);
        }
        x.close(2);
        x.file(5, 0);
        for (byte b : bytes) {
            Check.same("read(2)", x.read(2), b & 255);
        }
        for (int i = 0; i < 3; i++) {
            Check.same("read(2) behind the last one", x.read(2), 256);
        }
    }

    /** "-1 no such open HANDLE, -3 it is not for reading." */
    private static void p12Refusals() {
        MachineLoop x = new MachineLoop(100);
        for (int handle : new int[] {-1, 0, 2, 7, 8, LEAST, MOST}) {
            Check.same("read(" + handle + ")", x.read(handle), -1);
        }
        x.file(0, 1);
        x.file(1, 2);
        for (int handle = 1; handle <= 3; handle++) {
            Check.same("read(" + handle + ") is not for reading", x.read(handle), -3);
        }
        x.close(3);
        Check.same("read(3) closed", x.read(3), -1);
    }

    /** "A FILTER more: how many." */
    private static void p13FiltersAreCounted() {
        MachineLoop x = new MachineLoop(100);
        for (int kind = 1; kind <= 3; kind++) {
            Check.same("filter(1, " + kind + ")", x.filter(1, kind), kind);
        }
        x.file(0, 1);
        x.file(1, 1);
        Check.same("filter(3, 3) counts its own", x.filter(3, 3), 1);
        Check.same("filter(2, 3) counts its own", x.filter(2, 3), 1);
        Check.same("filter(2, 3) twice", x.filter(2, 3), 2);
    }

    /** "-1 no such open HANDLE, -2 no such FILTER, -4 it has 3.": each before the next. */
    private static void p13Refusals() {
        MachineLoop x = new MachineLoop(100);
        for (int handle : new int[] {-1, 0, 2, 7, 8, LEAST, MOST}) {
            for (int kind = 0; kind <= 4; kind++) {
                Check.same("filter(" + handle + ", " + kind + ")", x.filter(handle, kind), -1);
            }
        }
        for (int round = 0; round < 4; round++) {
            for (int kind : new int[] {0, 4, -1, LEAST, MOST}) {
                Check.same("filter(1, " + kind + ")", x.filter(1, kind), -2);
            }
            Check.same("filter(1, 3)", x.filter(1, 3), round < 3 ? round + 1 : -4);
        }
        x.write(1, (byte) 10);
        Check.same("output(0) through three", x.output(0), 13);
    }

    /** "A HANDLE is closed, and its FILTERS are off: 1." */
    private static void p14FiltersAreOff() {
        MachineLoop x = new MachineLoop(100);
        x.file(0, 1);
        x.filter(2, 3);
        x.filter(2, 3);
        x.filter(2, 3);
        Check.same("close(2)", x.close(2), 1);
        Check.same("file(0, 2)", x.file(0, 2), 2);
        x.write(2, (byte) 10);
        Check.same("lies(0, 0) through none", x.lies(0, 0), 10);
        Check.same("filter(2, 3) is the first", x.filter(2, 3), 1);
    }

    /** "-1 no such open HANDLE, -3 it is OUTPUT." */
    private static void p14Refusals() {
        MachineLoop x = new MachineLoop(100);
        for (int handle : new int[] {-1, 0, 2, 7, 8, LEAST, MOST}) {
            Check.same("close(" + handle + ")", x.close(handle), -1);
        }
        x.filter(1, 3);
        Check.same("close(1)", x.close(1), -3);
        x.write(1, (byte) 10);
        Check.same("output(0) through its filter", x.output(0), 11);
        x.file(0, 1);
        Check.same("close(2)", x.close(2), 1);
        Check.same("close(2) again", x.close(2), -1);
    }

    /** "Starts fail from now on, or not: whether they did before." */
    private static void p15StartsFailOrNot() {
        MachineLoop x = new MachineLoop(100);
        boolean[] given = {false, true, true, false, false, true};
        boolean before = false;
        for (boolean on : given) {
            Check.same("startFails(" + on + ")", x.startFails(on), before);
            Check.same("run()", x.run(), on ? -3 : 0);
            before = on;
        }
    }

    /** "Byte i of OUTPUT (0 .. 255); -1 there is none." */
    private static void p16BytesOfOutput() {
        MachineLoop x = new MachineLoop(20000);
        Check.same("output(0) of none", x.output(0), -1);
        x.write(1, (byte) -1);
        x.write(1, (byte) 0);
        Check.same("output(0)", x.output(0), 255);
        Check.same("output(1)", x.output(1), 0);
        for (int i : new int[] {-1, 2, 399, 400, LEAST, MOST}) {
            Check.same("output(" + i + ")", x.output(i), -1);
        }
        Check.ran(x, Check.number(398) + "{17w}");
        Check.same("output(399)", x.output(399), 7);
        Check.same("output(400)", x.output(400), -1);
        Check.same("output(-1)", x.output(-1), -1);
    }

    /** "Byte i of a file (0 .. 255), as it lies there; -1 there is none." */
    private static void p17BytesOfFiles() {
        MachineLoop x = new MachineLoop(20000);
        Check.same("lies(9, 0) of none", x.lies(9, 0), -1);
        x.file(9, 1);
        Check.same("lies(9, 0) of an empty one", x.lies(9, 0), -1);
        x.filter(2, 1);
        x.write(2, (byte) 0);
        Check.same("lies(9, 0) as it lies there", x.lies(9, 0), 255);
        x.close(2);
        x.file(9, 0);
        x.filter(2, 1);
        Check.same("read(2)", x.read(2), 0);
        Check.same("lies(9, 0) of one that is read", x.lies(9, 0), 255);
        x.close(2);
        Check.same("lies(9, 0) of one that is closed", x.lies(9, 0), 255);
        for (int wrong : new int[] {-1, 10, LEAST, MOST}) {
            Check.same("lies(" + wrong + ", 0)", x.lies(wrong, 0), -1);
            Check.same("lies(9, " + wrong + ")", x.lies(9, wrong), -1);
        }
        Check.same("lies(8, 0) beside it", x.lies(8, 0), -1);
        Check.same("lies(9, 1)", x.lies(9, 1), -1);
        Check.ran(x, "92o" + Check.number(99) + "{d7w}");
        Check.same("lies(9, 99)", x.lies(9, 99), 7);
        Check.same("lies(9, 100)", x.lies(9, 100), -1);
    }
}

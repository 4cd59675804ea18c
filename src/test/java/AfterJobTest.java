/** Promise 4: what a job leaves behind, whatever way it ends, and what it does not. */
public final class AfterJobTest {
    /** Ways to end: behind the last sign, at a q, by an error, by spent steps. */
    private static final String[] ENDS = {"", "q", "!", "9ttttt{}"};
    private static final int[] OUTCOMES = {1, 1, 2, 3};

    public static void main(String[] args) {
        for (int i = 0; i < ENDS.length; i++) {
            settingsAreAsBefore(ENDS[i], OUTCOMES[i]);
            resourcesAreAsBefore(ENDS[i], OUTCOMES[i]);
            handlesOfTheJobAreClosed(ENDS[i], OUTCOMES[i]);
            filtersOnOthersAreOff(ENDS[i], OUTCOMES[i]);
            filesOutputAndPlacesStay(ENDS[i], OUTCOMES[i]);
        }
        stackMarksAndLoopsBeginAnew();
        allHandlesAreAsBefore();
        othersAreNotClosedByJobs();
        handlesMayBeOpenedAnewInAJob();
        Check.end();
    }

    private static void settingsAreAsBefore(String end, int outcome) {
        MachineLoop x = new MachineLoop(1000);
        x.device(1, 2);
        int job = Check.ran(x, "13g31g s" + end);
        Check.same("outcome of " + end, x.ended(job, 0), outcome);
        Check.same("pages in it", x.ended(job, 3), 3);
        Check.same("pages behind it", x.ended(Check.ran(x, "s"), 3), 2);
        Check.fails(x, "10g", 3, 2, 3);
    }

    private static void resourcesAreAsBefore(String end, int outcome) {
        MachineLoop x = new MachineLoop(1000);
        x.define(1, 1, 55);
        int job = Check.ran(x, "113D 227D 11Rms 22Rms" + end);
        Check.same("outcome of " + end, x.ended(job, 0), outcome);
        Check.same("page(0, 0)", x.page(job, 0), 3);
        Check.same("page(0, 1)", x.page(job, 1), 7);
        Check.same("resource(1, 1)", x.resource(1, 1), 55);
        Check.same("resource(2, 2)", x.resource(2, 2), -3);
        Check.fails(x, "22R", 2, 2, 3);
    }

    private static void handlesOfTheJobAreClosed(String end, int outcome) {
        MachineLoop x = new MachineLoop(1000);
        x.file(0, 1);
        int job = Check.ran(x, "11o21o31o31f" + end);
        Check.same("outcome of " + end, x.ended(job, 0), outcome);
        Check.same("close(3)", x.close(3), -1);
        Check.same("close(5)", x.close(5), -1);
        Check.same("close(2) of the call", x.close(2), 1);
        Check.same("file(1, 0)", x.file(1, 0), 2);
        Check.same("file(2, 2)", x.file(2, 2), 3);
        Check.same("filter(3, 3) is the first", x.filter(3, 3), 1);
    }

    private static void filtersOnOthersAreOff(String end, int outcome) {
        MachineLoop x = new MachineLoop(1000);
        x.file(0, 1);
        x.filter(2, 3);
        x.filter(1, 2);
        int job = Check.ran(x, "13f11f21f13w23w" + end);
        Check.same("outcome of " + end, x.ended(job, 0), outcome);
        x.write(1, (byte) 3);
        x.write(2, (byte) 3);
        Check.same("output(0)", x.output(0), 0xdf);
        Check.same("output(1)", x.output(1), 0x30);
        Check.same("lies(0, 0)", x.lies(0, 0), 253);
        Check.same("lies(0, 1)", x.lies(0, 1), 4);
        Check.same("filter(1, 1) is the second", x.filter(1, 1), 2);
        Check.same("filter(2, 1) is the second", x.filter(2, 1), 2);
    }

    private static void filesOutputAndPlacesStay(String end, int outcome) {
        MachineLoop x = new MachineLoop(1000);
        x.file(0, 1);
        x.write(2, (byte) 5);
        x.write(2, (byte) 6);
        x.close(2);
        x.file(0, 0);
        int job = Check.ran(x, "2rm31o7w18ws" + end);
        Check.same("outcome of " + end, x.ended(job, 0), outcome);
        Check.same("what the job read", x.page(job, 0), 5);
        Check.same("lies(3, 0)", x.lies(3, 0), 7);
        Check.same("output(0)", x.output(0), 8);
        Check.same("read(2) goes on", x.read(2), 6);
        Check.same("read(2) behind", x.read(2), 256);
        Check.same("a file that a job emptied", x.ended(Check.ran(x, "31o" + end), 0), outcome);
        Check.same("lies(3, 0) emptied", x.lies(3, 0), -1);
        Check.same("file(3, 0) is there", x.file(3, 0), 3);
    }

    private static void stackMarksAndLoopsBeginAnew() {
        MachineLoop x = new MachineLoop(1000);
        Check.ran(x, "12345 6m 2{2{2{2{q}}}}");
        Check.fails(x, "p", 5, 0, 1);
        int job = Check.ran(x, "s1{1{1{1{}}}}");
        Check.ended(x, job, "marks and loops anew", 1, 0, 0, 1, 13, 0);
        Check.pages(x, job, "s", 0);
        Check.fails(x, "}", 1, 0, 1);
    }

    private static void allHandlesAreAsBefore() {
        MachineLoop x = new MachineLoop(1000);
        int job = Check.ran(x, "01o11o21o31o41o51o");
        Check.ended(x, job, "all handles", 1, 0, 0, 0, 18, 0);
        for (int handle = 2; handle <= 7; handle++) {
            Check.same("close(" + handle + ") of the job", x.close(handle), -1);
        }
        for (int name = 0; name < 6; name++) {
            Check.same("file(" + name + ", 1)", x.file(name, 1), name + 2);
        }
        Check.same("file(5, 0) that handle 7 writes", x.file(5, 0), -3);
        x.filter(7, 3);
        Check.same("a handle is free", x.close(4), 1);
        Check.same("file(5, 0) that handle 7 still writes", x.file(5, 0), -3);
        Check.ran(x, "73f33f");
        Check.same("filter(7, 1) is the second", x.filter(7, 1), 2);
        Check.same("filter(3, 1) is the first", x.filter(3, 1), 1);
    }

    private static void othersAreNotClosedByJobs() {
        MachineLoop x = new MachineLoop(1000);
        x.file(0, 1);
        Check.fails(x, "2c", 4, 1, 2);
        Check.same("write(2) still open", x.write(2, (byte) 1), 1);
        Check.fails(x, "1c", 4, 1, 2);
        Check.ended(x, Check.ran(x, "29w11od3wc"), "own and other ones", 1, 0, 0, 0, 10, 0);
        Check.same("lies(0, 1)", x.lies(0, 1), 9);
        Check.same("lies(1, 0)", x.lies(1, 0), 3);
    }

    private static void handlesMayBeOpenedAnewInAJob() {
        MachineLoop x = new MachineLoop(1000);
        int job = Check.ran(x, "11od1f9w 2c 12od3w 2c 10odrmdrmrms");
        Check.ended(x, job, "filters are off when it is closed", 1, 0, 0, 1, 30, 0);
        Check.same("lies(1, 0)", x.lies(1, 0), 246);
        Check.same("lies(1, 1)", x.lies(1, 1), 3);
        Check.pages(x, job, "read", 31 * (31 * 246 + 3) - 1);
    }
}

/** Promises 6 and 7: pages and the device's settings. */
public final class PagesTest {
    public static void main(String[] args) {
        pagesOfJobs();
        copiesOfTheDevice();
        settingsAreBounded();
        wrongSettingsChangeNothing();
        policyOfTheDevice();
        Check.end();
    }

    private static void pagesOfJobs() {
        MachineLoop x = new MachineLoop(100);
        Check.same("page of no job", x.page(0, 0), 0);
        Check.job(x, "5ms6ms");
        Check.job(x, "7ms!");
        Check.same("page before run()", x.page(0, 0), 0);
        x.run();
        Check.pages(x, 0, "5ms6ms", 5, 6);
        Check.pages(x, 1, "7ms!", 7);
        int[] none = {-1, 2, 39, 40, 41, Integer.MIN_VALUE, Integer.MAX_VALUE};
        for (int i : none) {
            Check.same("page(0, " + i + ")", x.page(0, i), 0);
        }
        int[] unknown = {-1, 2, 20, Integer.MIN_VALUE, Integer.MAX_VALUE};
        for (int job : unknown) {
            Check.same("page(" + job + ", 0)", x.page(job, 0), 0);
        }
    }

    private static void copiesOfTheDevice() {
        MachineLoop x = new MachineLoop(100);
        for (int copies = 1; copies <= 9; copies++) {
            Check.same("device(1, " + copies + ")", x.device(1, copies), 1);
            int job = Check.ran(x, "4ms");
            Check.same("pages", x.ended(job, 3), copies);
            Check.same("the last one", x.page(job, copies - 1), 4);
            Check.same("behind it", x.page(job, copies), 0);
        }
    }

    private static void settingsAreBounded() {
        int[] least = {0, 1, 0, 0};
        int[] most = {3, 9, 1, 1};
        for (int setting = 0; setting < 4; setting++) {
            MachineLoop x = new MachineLoop(100);
            for (int v = -2; v <= 12; v++) {
                int due = v >= least[setting] && v <= most[setting] ? 1 : 0;
                Check.same("device(" + setting + ", " + v + ")", x.device(setting, v), due);
            }
            Check.same("the least number", x.device(setting, Integer.MIN_VALUE), 0);
            Check.same("the greatest number", x.device(setting, Integer.MAX_VALUE), 0);
        }
        MachineLoop x = new MachineLoop(100);
        int[] none = {-1, 4, Integer.MIN_VALUE, Integer.MAX_VALUE};
        for (int setting : none) {
            Check.same("device(" + setting + ", 1)", x.device(setting, 1), 0);
        }
    }

    private static void wrongSettingsChangeNothing() {
        MachineLoop x = new MachineLoop(100);
        x.device(1, 3);
        x.device(1, 0);
        x.device(1, 10);
        Check.same("copies", x.ended(Check.ran(x, "s"), 3), 3);
        x.device(3, 1);
        Check.same("a wrong request to the device, by a call", x.device(1, 10), 0);
        Check.same("copies with policy 1", x.ended(Check.ran(x, "s"), 3), 3);
    }

    private static void policyOfTheDevice() {
        MachineLoop x = new MachineLoop(100);
        x.device(3, 1);
        Check.ended(x, Check.ran(x, "99g10g"), "policy 1", 1, 0, 0, 0, 6, 0);
        x.device(3, 0);
        Check.fails(x, "99g10g", 3, 2, 3);
    }
}

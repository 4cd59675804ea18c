/** No call throws, for any arguments in any state, and each answers what its promise can answer. */
public final class AnyArgumentsTest {
    private static final int[] NUMBERS = {Integer.MIN_VALUE, -65536, -257, -256, -2, -1, 0, 1, 2, 3, 4, 5, 6, 7, 8, 9,
        10, 19, 20, 39, 40, 41, 99, 100, 199, 200, 255, 256, 399, 400, 9999, 10000, 65536, Integer.MAX_VALUE};
    private static final String[] JOBS = {"", "15w01od6wd11fd12f3ms", "!", "9ttttt{}", "4t{s}s", "q!",
        "01o11o21o31o41o51o", "4tt{13w}", "01o1tt{d7w}1w", "1{1{1{1{1{}}}}}", "11f12f13f14f"};

    public static void main(String[] args) {
        for (int state = 0; state <= JOBS.length; state++) {
            oneNumber(inState(state), inState(state));
            for (int a : NUMBERS) {
                twoNumbers(inState(state), a);
                threeNumbers(inState(state), a);
            }
        }
        Check.end();
    }

    /** Each state has the jobs of those before it, too, and more open files. */
    private static MachineLoop inState(int state) {
        MachineLoop x = new MachineLoop(20000);
        for (int i = 0; i < state; i++) {
            Check.job(x, JOBS[i]);
        }
        Check.same("run()", x.run(), state);
        for (int name = 0; name < state && name < 8; name++) {
            x.file(name, name % 3);
        }
        return x;
    }

    private static void within(String told, int answer, int least, int most) {
        Check.same(told + " answered " + answer + ", which may be", answer >= least && answer <= most, true);
    }

    private static void oneNumber(MachineLoop x, MachineLoop y) {
        for (int a : NUMBERS) {
            within("add(" + a + ")", x.add(a, (byte) a), -3, 200);
            within("read(" + a + ")", x.read(a), -3, 256);
            within("output(" + a + ")", x.output(a), -1, 255);
            within("write(" + a + ")", x.write(a, (byte) a), -4, 1);
            within("close(" + a + ")", y.close(a), -3, 1);
            within("close(" + a + ") again", y.close(a), -3, -1);
        }
        within("job()", x.job(), 0, 19);
        within("run()", x.run(), 1, 1);
    }

    private static void twoNumbers(MachineLoop x, int a) {
        for (int b : NUMBERS) {
            String both = "(" + a + ", " + b + ")";
            within("ended" + both, x.ended(a, b), -2, 20000);
            Check.same("page" + both + " is 0 or 3", x.page(a, b) == 0 || x.page(a, b) == 3, true);
            within("device" + both, x.device(a, b), 0, 1);
            within("resource" + both, x.resource(a, b), -3, -1);
            within("file" + both, x.file(a, b), -4, 7);
            within("filter" + both, x.filter(a, b), -4, 3);
            within("lies" + both, x.lies(a, b), -1, 255);
        }
    }

    private static void threeNumbers(MachineLoop x, int a) {
        for (int b : NUMBERS) {
            for (int c : new int[] {Integer.MIN_VALUE, -1, 0, 9999, 10000, Integer.MAX_VALUE}) {
                boolean isKnown = a >= 0 && a <= 3 && b >= 0 && b <= 9;
                int due = !isKnown ? -1 : c < 0 || c > 9999 ? -2 : 1;
                Check.same("define(" + a + ", " + b + ", " + c + ")", x.define(a, b, c), due);
            }
        }
    }
}

import java.util.ArrayList;
import java.util.List;
import java.util.function.ToIntFunction;

/**
 * "REFUSALS change nothing": two objects have the same past, one of them refuses a call more, and
 * then all that can be seen of both is the same.
 */
public final class RefusalsTest {
    private static int refused = 0;

    public static void main(String[] args) {
        refusals(false);
        refusals(true);
        Check.same("refusals that were tried", refused > 100, true);
        Check.end();
    }

    private static void refusals(boolean allHandlesOpen) {
        for (int wrong : new int[] {-1, 10, 20, Integer.MIN_VALUE, Integer.MAX_VALUE}) {
            refuses(allHandlesOpen, "add(" + wrong + ")", x -> x.add(wrong, (byte) 's'), -1);
            refuses(allHandlesOpen, "ended(" + wrong + ", 0)", x -> x.ended(wrong, 0), -1);
            refuses(allHandlesOpen, "ended(0, " + wrong + ")", x -> x.ended(0, wrong), -2);
            refuses(allHandlesOpen, "page(" + wrong + ", 0)", x -> x.page(wrong, 0), 0);
            refuses(allHandlesOpen, "page(0, " + wrong + ")", x -> x.page(0, wrong), 0);
            refuses(allHandlesOpen, "device(" + wrong + ", 1)", x -> x.device(wrong, 1), 0);
            refuses(allHandlesOpen, "define(" + wrong + ", 0, 5)", x -> x.define(wrong, 0, 5), -1);
            refuses(allHandlesOpen, "define(0, " + wrong + ", 5)", x -> x.define(0, wrong, 5), -1);
            refuses(allHandlesOpen, "resource(" + wrong + ", 0)", x -> x.resource(wrong, 0), -1);
            refuses(allHandlesOpen, "resource(0, " + wrong + ")", x -> x.resource(0, wrong), -1);
            refuses(allHandlesOpen, "file(" + wrong + ", 1)", x -> x.file(wrong, 1), -1);
            refuses(allHandlesOpen, "file(5, " + wrong + ")", x -> x.file(5, wrong), -2);
            refuses(allHandlesOpen, "write(" + wrong + ")", x -> x.write(wrong, (byte) 5), -1);
            refuses(allHandlesOpen, "read(" + wrong + ")", x -> x.read(wrong), -1);
            refuses(allHandlesOpen, "filter(" + wrong + ", 1)", x -> x.filter(wrong, 1), -1);
            refuses(allHandlesOpen, "filter(3, " + wrong + ")", x -> x.filter(3, wrong), -2);
            refuses(allHandlesOpen, "close(" + wrong + ")", x -> x.close(wrong), -1);
            refuses(allHandlesOpen, "output(" + wrong + ")", x -> x.output(wrong), -1);
            refuses(allHandlesOpen, "lies(" + wrong + ", 0)", x -> x.lies(wrong, 0), -1);
            refuses(allHandlesOpen, "lies(0, " + wrong + ")", x -> x.lies(0, wrong), -1);
        }
        for (int setting = 0; setting < 4; setting++) {
            int which = setting;
            refuses(allHandlesOpen, "device(" + which + ", -1)", x -> x.device(which, -1), 0);
            refuses(allHandlesOpen, "device(" + which + ", 10)", x -> x.device(which, 10), 0);
        }
        refuses(allHandlesOpen, "add(0) that was RUN", x -> x.add(0, (byte) 's'), -3);
        refuses(allHandlesOpen, "add(1) that failed", x -> x.add(1, (byte) 's'), -3);
        refuses(allHandlesOpen, "run() when starts fail", x -> x.run(), -3);
        refuses(allHandlesOpen, "define(1, 1, -1)", x -> x.define(1, 1, -1), -2);
        refuses(allHandlesOpen, "define(1, 1, 10000)", x -> x.define(1, 1, 10000), -2);
        refuses(allHandlesOpen, "define(1, 2, 10000), not there", x -> x.define(1, 2, 10000), -2);
        refuses(allHandlesOpen, "resource(1, 2), not there", x -> x.resource(1, 2), -3);
        refuses(allHandlesOpen, "file(8, 0), not there", x -> x.file(8, 0), -3);
        refuses(allHandlesOpen, "file(0, 1), which is read", x -> x.file(0, 1), -3);
        refuses(allHandlesOpen, "file(0, 2), which is read", x -> x.file(0, 2), -3);
        for (int again = 0; again < 3; again++) {
            int mode = again;
            refuses(allHandlesOpen, "file(1, " + mode + "), which is written", x -> x.file(1, mode), -3);
        }
        refuses(allHandlesOpen, "write(2) for reading", x -> x.write(2, (byte) 5), -3);
        refuses(allHandlesOpen, "write(4) of 100", x -> x.write(4, (byte) 5), -4);
        refuses(allHandlesOpen, "read(1)", x -> x.read(1), -3);
        refuses(allHandlesOpen, "read(3) for writing", x -> x.read(3), -3);
        refuses(allHandlesOpen, "filter(1, 3) of 3", x -> x.filter(1, 3), -4);
        refuses(allHandlesOpen, "close(1)", x -> x.close(1), -3);
        if (allHandlesOpen) {
            refuses(true, "file(8, 1) without a HANDLE", x -> x.file(8, 1), -4);
            refuses(true, "file(8, 2) without a HANDLE", x -> x.file(8, 2), -4);
            refuses(true, "file(9, 0) without a HANDLE", x -> x.file(9, 0), -4);
            refuses(true, "file(9, 1) without a HANDLE", x -> x.file(9, 1), -4);
        } else {
            refuses(false, "write(5) not open", x -> x.write(5, (byte) 5), -1);
            refuses(false, "read(5) not open", x -> x.read(5), -1);
            refuses(false, "filter(5, 1) not open", x -> x.filter(5, 1), -1);
            refuses(false, "close(5) not open", x -> x.close(5), -1);
        }
    }

    private static void refuses(boolean allHandlesOpen, String told, ToIntFunction<MachineLoop> call, int due) {
        refused++;
        MachineLoop x = withAPast(allHandlesOpen);
        MachineLoop y = withAPast(allHandlesOpen);
        Check.same(told, call.applyAsInt(x), due);
        Check.same(told + " again", call.applyAsInt(x), due);
        Check.same("all is the same behind " + told, seen(x).equals(seen(y)), true);
    }

    /** Two jobs that were RUN and one that was not; files there, read, written, full; starts fail. */
    private static MachineLoop withAPast(boolean allHandlesOpen) {
        MachineLoop x = new MachineLoop(5000);
        Check.job(x, "3ms4ms 01od5wd6wc 41o1tt{d7w} 91od8w");
        Check.job(x, "5ms!s");
        Check.same("run() of the past", x.run(), 2);
        Check.job(x, "2ms");
        x.startFails(true);
        x.device(1, 2);
        x.define(0, 0, 3);
        x.define(1, 1, 4);
        Check.same("file(0, 0) of the past", x.file(0, 0), 2);
        Check.same("file(1, 1) of the past", x.file(1, 1), 3);
        Check.same("file(4, 2) of the past", x.file(4, 2), 4);
        x.read(2);
        x.write(3, (byte) 9);
        x.filter(3, 3);
        x.filter(1, 3);
        x.filter(1, 1);
        x.filter(1, 2);
        x.write(1, (byte) 9);
        if (allHandlesOpen) {
            x.file(2, 1);
            x.file(3, 1);
            x.file(6, 1);
        }
        return x;
    }

    private static List<Integer> seen(MachineLoop x) {
        List<Integer> all = new ArrayList<>();
        for (int job = 0; job < 4; job++) {
            for (int what = 0; what < 6; what++) {
                all.add(x.ended(job, what));
            }
            for (int i = 0; i < 3; i++) {
                all.add(x.page(job, i));
            }
        }
        for (int i = 0; i < 40; i++) {
            all.add(x.resource(i / 10, i % 10));
        }
        for (int name = 0; name < 10; name++) {
            for (int i : new int[] {0, 1, 2, 99, 100}) {
                all.add(x.lies(name, i));
            }
        }
        for (int handle = 1; handle <= 7; handle++) {
            all.add(x.write(handle, (byte) 100));
            all.add(x.read(handle));
            all.add(x.filter(handle, 1));
        }
        for (int i = 0; i < 4; i++) {
            all.add(x.output(i));
            all.add(x.lies(1, i));
        }
        all.add(x.startFails(false) ? 1 : 0);
        // Whether a POLICY or COPIES, or the signs of job 2, are others than before.
        all.add(x.job());
        Check.addTo(x, 3, "s10g");
        all.add(x.run());
        for (int job = 2; job < 4; job++) {
            for (int what = 0; what < 6; what++) {
                all.add(x.ended(job, what));
            }
        }
        all.add(x.file(8, 0));
        all.add(x.file(8, 2));
        all.add(x.file(9, 0));
        return all;
    }
}

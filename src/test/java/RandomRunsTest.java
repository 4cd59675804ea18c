import java.util.ArrayList;
import java.util.HashMap;
import java.util.List;
import java.util.Map;

/**
 * Long runs of calls, made by a fixed formula, on MachineLoop and on a second, slower machine that
 * was written from the document in another way (blocks by recursion, lists and maps for state).
 */
public final class RandomRunsTest {
    private static final int OBJECTS = 4000;
    /** So few that those which compare the state at the end stay within the 512 that are promised. */
    private static final int MOST_CALLS = 512 - 90;
    private static final String[] PIECES = {
        "0", "1", "2", "3", "7", "9", "t", "+", "-", "*", "d", "x", "p", "m", "s", "1m", "5ms", "d m", "12g", "13g", "11g",
        "31g", "30g", "19g", "10g", "44g", "02g", "g", "12R", "125D", "3D", "R", "D", "01R", "019D", "01o", "11o", "12o",
        "20o", "21o", "00o", "10o", "02o", "o", "2c", "3c", "c", "15w", "29w", "38w", "d7w", "w", "2r", "3r", "4rm", "r",
        "11f", "22f", "33f", "13f", "f", "2{", "3{", "0{", "1{", "}", "}", "}", "}", "}", "q", "%", "%{\n", "\n", " ",
        "!", "A", "9t{", "{", "dm", "dms", "8t{1w}", "9tt{11w}"};

    private static long seed = 20261115;

    public static void main(String[] args) {
        for (int i = 0; i < OBJECTS; i++) {
            compare(i);
        }
        Check.end();
    }

    private static int below(int bound) {
        seed = seed * 6364136223846793005L + 1442695040888963407L;
        return (int) ((seed >>> 33) % bound);
    }

    private static void compare(int object) {
        int steps = below(3) == 0 ? below(60) : below(2) == 0 ? 20000 : 500;
        MachineLoop x = new MachineLoop(steps);
        Plain y = new Plain(steps);
        int calls = 0;
        int jobs = 0;
        while (calls < MOST_CALLS) {
            int kind = below(14);
            if (kind == 0) {
                String signs = signs();
                if (calls + 1 + signs.length() > MOST_CALLS) {
                    break;
                }
                Check.same(object + " job()", x.job(), y.job());
                for (int i = 0; i < signs.length(); i++) {
                    byte b = (byte) signs.charAt(i);
                    Check.same(object + " add", x.add(jobs, b), y.add(jobs, b));
                }
                jobs = Math.min(jobs + 1, 20);
                calls += 1 + signs.length();
            } else if (kind <= 2) {
                Check.same(object + " run()", x.run(), y.run());
                calls++;
                if (jobs > 0) {
                    calls += compareEnd(object, x, y, jobs - 1);
                }
            } else {
                call(object, x, y, kind);
                calls++;
            }
        }
        compareState(object, x, y);
    }

    private static String signs() {
        StringBuilder signs = new StringBuilder();
        // Without some numbers to begin with, most jobs would fail by a STACK that has too few.
        for (int i = below(4) * below(7); i > 0; i--) {
            signs.append((char) ('0' + below(10)));
        }
        int pieces = 1 + below(30);
        for (int i = 0; i < pieces; i++) {
            signs.append(PIECES[below(PIECES.length)]);
        }
        int open = 0;
        for (int i = 0; i < signs.length(); i++) {
            open += signs.charAt(i) == '{' ? 1 : signs.charAt(i) == '}' ? -1 : 0;
        }
        if (open > 0 && below(8) != 0) {
            signs.append('\n').append(Check.times(open, "}"));
        }
        return signs.toString();
    }

    private static int compareEnd(int object, MachineLoop x, Plain y, int job) {
        for (int what = 0; what < 6; what++) {
            Check.same(object + " ended(" + job + ", " + what + ")", x.ended(job, what), y.ended(job, what));
        }
        for (int i = 0; i < 5; i++) {
            Check.same(object + " page(" + job + ", " + i + ")", x.page(job, i), y.page(job, i));
        }
        return 11;
    }

    private static void call(int object, MachineLoop x, Plain y, int kind) {
        int a = below(9) - 1;
        int b = below(5) - 1;
        int c = below(300) - 20;
        String told = object + " call " + kind + "(" + a + ", " + b + ", " + c + ")";
        switch (kind) {
            case 3: Check.same(told, x.device(b, a), y.device(b, a)); break;
            case 4: Check.same(told, x.define(b, a, c * 40), y.define(b, a, c * 40)); break;
            case 5: Check.same(told, x.resource(b, a), y.resource(b, a)); break;
            case 6: Check.same(told, x.file(a, b), y.file(a, b)); break;
            case 7: Check.same(told, x.write(a, (byte) c), y.write(a, (byte) c)); break;
            case 8: Check.same(told, x.read(a), y.read(a)); break;
            case 9: Check.same(told, x.filter(a, b), y.filter(a, b)); break;
            case 10: Check.same(told, x.close(a), y.close(a)); break;
            case 11: Check.same(told, x.startFails(b == 0), y.startFails(b == 0)); break;
            case 12: Check.same(told, x.output(c), y.output(c)); break;
            default: Check.same(told, x.lies(a, c / 20), y.lies(a, c / 20)); break;
        }
    }

    private static void compareState(int object, MachineLoop x, Plain y) {
        for (int i = 0; i < 40; i++) {
            Check.same(object + " resource " + i, x.resource(i / 10, i % 10), y.resource(i / 10, i % 10));
        }
        for (int i = 0; i < 10; i++) {
            Check.same(object + " output " + i, x.output(i), y.output(i));
            Check.same(object + " lies first of " + i, x.lies(i, 0), y.lies(i, 0));
            Check.same(object + " lies last of " + i, x.lies(i, 99), y.lies(i, 99));
        }
        for (int handle = 2; handle <= 7; handle++) {
            Check.same(object + " read " + handle, x.read(handle), y.read(handle));
        }
    }

    /** An open file, or OUTPUT. */
    private static final class Way {
        final List<Integer> bytes;
        final int file;
        final int mode;
        final boolean ofJob;
        List<Integer> filters = new ArrayList<>();
        int place = 0;

        Way(List<Integer> bytes, int file, int mode, boolean ofJob) {
            this.bytes = bytes;
            this.file = file;
            this.mode = mode;
            this.ofJob = ofJob;
        }
    }

    /** A job ends by this, from however deep in its blocks. */
    private static final class End extends RuntimeException {
        private static final long serialVersionUID = 1L;
        final int how;
        final int error;

        End(int how, int error) {
            super(null, null, false, false);
            this.how = how;
            this.error = error;
        }
    }

    private static final class PlainJob {
        String signs = "";
        final List<Integer> pages = new ArrayList<>();
        int how = 0;
        int error = 0;
        int place = 0;
        int steps = 0;
        int flushed = 0;
    }

    private static final class Plain {
        private final long limit;
        private final List<PlainJob> jobs = new ArrayList<>();
        private int[] settings = {0, 1, 0, 0};
        private Map<Integer, Integer> resources = new HashMap<>();
        private final Map<Integer, List<Integer>> files = new HashMap<>();
        private final Map<Integer, Way> ways = new HashMap<>();
        private boolean failing = false;
        private final List<Integer> stack = new ArrayList<>();
        private int marks;
        private int at;

        Plain(long steps) {
            limit = steps < 0 ? 0 : steps > 20000 ? 20000 : steps;
            ways.put(1, new Way(new ArrayList<>(), -1, 1, false));
        }

        int job() {
            if (jobs.size() == 20) {
                return -4;
            }
            jobs.add(new PlainJob());
            return jobs.size() - 1;
        }

        int add(int job, byte b) {
            if (job < 0 || job >= jobs.size()) {
                return -1;
            }
            PlainJob j = jobs.get(job);
            if (j.how != 0) {
                return -3;
            }
            if (j.signs.length() == 200) {
                return -4;
            }
            j.signs += (char) (b & 255);
            return j.signs.length();
        }

        int run() {
            if (failing) {
                return -3;
            }
            int count = 0;
            for (PlainJob j : jobs) {
                if (j.how == 0) {
                    runOne(j);
                    count++;
                }
            }
            return count;
        }

        private void runOne(PlainJob j) {
            int[] settingsBefore = settings.clone();
            Map<Integer, Integer> resourcesBefore = new HashMap<>(resources);
            Map<Integer, List<Integer>> filtersBefore = new HashMap<>();
            ways.forEach((h, w) -> filtersBefore.put(h, new ArrayList<>(w.filters)));
            stack.clear();
            marks = 0;
            at = 0;
            try {
                block(j, 0);
                j.how = 1;
            } catch (End end) {
                j.how = end.how;
                j.error = end.error;
                j.place = end.how == 2 ? at : 0;
                j.flushed = end.how == 2 ? j.signs.length() - at - 1 : 0;
            }
            settings = settingsBefore;
            resources = resourcesBefore;
            ways.values().removeIf(w -> w.ofJob);
            filtersBefore.forEach((h, f) -> ways.get(h).filters = f);
        }

        /** Does signs up to the } of this block, which it leaves to its caller, or to the end. */
        private void block(PlainJob j, int depth) {
            while (at < j.signs.length()) {
                char sign = j.signs.charAt(at);
                if (sign == '%') {
                    at = behindRemark(j.signs, at);
                    continue;
                }
                if (sign == ' ' || sign == '\n') {
                    at++;
                    continue;
                }
                if (j.steps == limit) {
                    throw new End(3, 0);
                }
                j.steps++;
                if (sign == '}') {
                    if (depth == 0) {
                        throw new End(2, 1);
                    }
                    return;
                }
                if (sign == '{') {
                    loop(j, depth);
                } else {
                    sign(j, sign);
                }
                at++;
            }
        }

        private void loop(PlainJob j, int depth) {
            int times = pop(1)[0];
            if (depth == 4) {
                throw new End(2, 6);
            }
            int start = at;
            int end = closing(j.signs, start);
            if (end < 0) {
                throw new End(2, 7);
            }
            for (int i = 0; i < times; i++) {
                at = start + 1;
                block(j, depth + 1);
            }
            at = end;
        }

        private static int behindRemark(String signs, int from) {
            int newline = signs.indexOf('\n', from);
            return newline < 0 ? signs.length() : newline + 1;
        }

        private static int closing(String signs, int start) {
            int open = 0;
            int i = start;
            while (i < signs.length()) {
                char sign = signs.charAt(i);
                if (sign == '%') {
                    i = behindRemark(signs, i);
                    continue;
                }
                open += sign == '{' ? 1 : sign == '}' ? -1 : 0;
                if (open == 0) {
                    return i;
                }
                i++;
            }
            return -1;
        }

        private int[] pop(int count) {
            if (stack.size() < count) {
                throw new End(2, 5);
            }
            int[] taken = new int[count];
            for (int i = count - 1; i >= 0; i--) {
                taken[i] = stack.remove(stack.size() - 1);
            }
            return taken;
        }

        private void push(int v) {
            if (stack.size() == 20) {
                throw new End(2, 6);
            }
            stack.add(v);
        }

        private static int orError(int answer, int error) {
            if (answer < 0) {
                throw new End(2, error);
            }
            return answer;
        }

        private void sign(PlainJob j, char sign) {
            int[] a;
            switch (sign) {
                case 't': push(pop(1)[0] * 10); break;
                case '+': a = pop(2); push(a[0] + a[1]); break;
                case '-': a = pop(2); push(a[0] - a[1]); break;
                case '*': a = pop(2); push(a[0] * a[1]); break;
                case 'd': a = pop(1); push(a[0]); push(a[0]); break;
                case 'x': a = pop(2); push(a[1]); push(a[0]); break;
                case 'p': pop(1); break;
                case 'm': marks = marks * 31 + pop(1)[0]; break;
                case 's': showCopies(j); break;
                case 'q': throw new End(1, 0);
                case 'g':
                    a = pop(2);
                    if (device(a[0], a[1]) == 0 && settings[3] == 0) {
                        throw new End(2, 3);
                    }
                    break;
                case 'R': a = pop(2); push(orError(resource(a[0], a[1]), 2)); break;
                case 'D': a = pop(3); orError(define(a[0], a[1], a[2]), 2); break;
                case 'o': a = pop(2); push(orError(open(a[0], a[1], true), 4)); break;
                case 'c':
                    a = pop(1);
                    orError(ways.containsKey(a[0]) && ways.get(a[0]).ofJob ? close(a[0]) : -1, 4);
                    break;
                case 'w': a = pop(2); orError(write(a[0], (byte) a[1]), 4); break;
                case 'r':
                    int got = orError(read(pop(1)[0]), 4);
                    push(got == 256 ? -1 : got);
                    break;
                case 'f': a = pop(2); orError(filter(a[0], a[1]), 4); break;
                default:
                    if (sign < '0' || sign > '9') {
                        throw new End(2, 1);
                    }
                    push(sign - '0');
            }
        }

        private void showCopies(PlainJob j) {
            if (j.pages.size() + settings[1] > 40) {
                throw new End(2, 6);
            }
            for (int i = 0; i < settings[1]; i++) {
                j.pages.add(marks);
            }
            marks = 0;
        }

        int ended(int job, int what) {
            PlainJob j = jobs.get(job);
            return new int[] {j.how, j.error, j.place, j.pages.size(), j.steps, j.flushed}[what];
        }

        int page(int job, int i) {
            List<Integer> pages = jobs.get(job).pages;
            return i < pages.size() ? pages.get(i) : 0;
        }

        int device(int setting, int v) {
            String bounds = setting == 0 ? "0123" : setting == 1 ? "123456789" : setting == 2 || setting == 3 ? "01" : "";
            if (v < 0 || v > 9 || bounds.indexOf('0' + v) < 0) {
                return 0;
            }
            settings[setting] = v;
            return 1;
        }

        private static boolean isResource(int category, int name) {
            return category >= 0 && category <= 3 && name >= 0 && name <= 9;
        }

        int define(int category, int name, int v) {
            if (!isResource(category, name)) {
                return -1;
            }
            if (v < 0 || v > 9999) {
                return -2;
            }
            resources.put(category * 100 + name, v);
            return 1;
        }

        int resource(int category, int name) {
            return isResource(category, name) ? resources.getOrDefault(category * 100 + name, -3) : -1;
        }

        int file(int name, int mode) {
            return open(name, mode, false);
        }

        private int open(int name, int mode, boolean ofJob) {
            if (name < 0 || name > 9) {
                return -1;
            }
            if (mode < 0 || mode > 2) {
                return -2;
            }
            boolean isRead = ways.values().stream().anyMatch(w -> w.file == name && w.mode == 0);
            boolean isWritten = ways.values().stream().anyMatch(w -> w.file == name && w.mode != 0);
            if (isWritten || isRead && mode != 0 || mode == 0 && !files.containsKey(name)) {
                return -3;
            }
            for (int handle = 2; handle <= 7; handle++) {
                if (!ways.containsKey(handle)) {
                    files.putIfAbsent(name, new ArrayList<>());
                    if (mode == 1) {
                        files.get(name).clear();
                    }
                    ways.put(handle, new Way(files.get(name), name, mode, ofJob));
                    return handle;
                }
            }
            return -4;
        }

        int write(int handle, byte b) {
            Way way = ways.get(handle);
            if (way == null) {
                return -1;
            }
            if (way.mode == 0) {
                return -3;
            }
            if (way.bytes.size() == (handle == 1 ? 400 : 100)) {
                return -4;
            }
            int v = b & 0xff;
            for (int i = way.filters.size(); i > 0; i--) {
                int kind = way.filters.get(i - 1);
                v = kind == 1 ? 255 - v : kind == 2 ? v % 16 * 16 + v / 16 : (v + 1) % 256;
            }
            way.bytes.add(v);
            return 1;
        }

        int read(int handle) {
            Way way = ways.get(handle);
            if (way == null) {
                return -1;
            }
            if (way.mode != 0) {
                return -3;
            }
            if (way.place == way.bytes.size()) {
                return 256;
            }
            int v = way.bytes.get(way.place++);
            for (int kind : way.filters) {
                v = kind == 1 ? 255 - v : kind == 2 ? v % 16 * 16 + v / 16 : (v + 255) % 256;
            }
            return v;
        }

        int filter(int handle, int kind) {
            if (!ways.containsKey(handle)) {
                return -1;
            }
            if (kind < 1 || kind > 3) {
                return -2;
            }
            List<Integer> filters = ways.get(handle).filters;
            if (filters.size() == 3) {
                return -4;
            }
            filters.add(kind);
            return filters.size();
        }

        int close(int handle) {
            if (!ways.containsKey(handle)) {
                return -1;
            }
            if (handle == 1) {
                return -3;
            }
            ways.remove(handle);
            return 1;
        }

        boolean startFails(boolean on) {
            boolean before = failing;
            failing = on;
            return before;
        }

        int output(int i) {
            return byteOf(ways.get(1).bytes, i);
        }

        int lies(int name, int i) {
            return byteOf(files.getOrDefault(name, new ArrayList<>()), i);
        }

        private static int byteOf(List<Integer> bytes, int i) {
            return i >= 0 && i < bytes.size() ? bytes.get(i) : -1;
        }
    }
}

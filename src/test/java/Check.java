/** What every test of the project uses: answers compared with those that are due, and counted. */
final class Check {
    private static int wrong = 0;

    private Check() {
    }

    static void same(String what, long got, long due) {
        if (got != due) {
            wrong++;
            System.out.println(what + " answered " + got + ", due is " + due);
        }
    }

    static void same(String what, boolean got, boolean due) {
        same(what, got ? 1 : 0, due ? 1 : 0);
    }

    /** A job more, with these signs: its number. */
    static int job(MachineLoop x, String signs) {
        int number = x.job();
        addTo(x, number, signs);
        return number;
    }

    static void addTo(MachineLoop x, int job, String signs) {
        for (int i = 0; i < signs.length(); i++) {
            x.add(job, (byte) signs.charAt(i));
        }
    }

    /** A job more, with these signs, that is run at once: its number. */
    static int ran(MachineLoop x, String signs) {
        int number = job(x, signs);
        same("run() of " + signs, x.run(), 1);
        return number;
    }

    static void ended(MachineLoop x, int job, String signs, int... due) {
        for (int what = 0; what < due.length; what++) {
            same("ended(" + job + ", " + what + ") of " + signs, x.ended(job, what), due[what]);
        }
    }

    /** On a new object: the job ends well after so many steps, and its pages have these marks. */
    static void shows(String signs, int steps, int... marks) {
        MachineLoop x = new MachineLoop(20000);
        int job = ran(x, signs);
        ended(x, job, signs, 1, 0, 0, marks.length, steps, 0);
        pages(x, job, signs, marks);
    }

    /** On a new object: the job has this error at this place, as its step of this number. */
    static void fails(String signs, int error, int place, int steps) {
        MachineLoop x = new MachineLoop(20000);
        fails(x, signs, error, place, steps);
    }

    static int fails(MachineLoop x, String signs, int error, int place, int steps) {
        int job = ran(x, signs);
        same("ended(0) of " + signs, x.ended(job, 0), 2);
        same("ended(1) of " + signs, x.ended(job, 1), error);
        same("ended(2) of " + signs, x.ended(job, 2), place);
        same("ended(4) of " + signs, x.ended(job, 4), steps);
        same("ended(5) of " + signs, x.ended(job, 5), signs.length() - place - 1);
        return job;
    }

    static void pages(MachineLoop x, int job, String signs, int... marks) {
        for (int i = 0; i < marks.length; i++) {
            same("page(" + job + ", " + i + ") of " + signs, x.page(job, i), marks[i]);
        }
        same("page behind the last of " + signs, x.page(job, marks.length), 0);
    }

    /** Signs that lay this number on the stack, for which it needs room for two. */
    static String number(int v) {
        String digits = Long.toString(Math.abs((long) v));
        StringBuilder signs = new StringBuilder(v < 0 ? "0" : "").append(digits.charAt(0));
        for (int i = 1; i < digits.length(); i++) {
            signs.append('t').append(digits.charAt(i)).append('+');
        }
        return signs.append(v < 0 ? "-" : "").toString();
    }

    /** The job ends so if it may take just these steps, and stops if it may take one less. */
    static void takes(String signs, int steps, int outcome) {
        MachineLoop enough = new MachineLoop(steps);
        int job = ran(enough, signs);
        same("ended(0) of " + signs + " with " + steps, enough.ended(job, 0), outcome);
        same("ended(4) of " + signs + " with " + steps, enough.ended(job, 4), steps);
        if (steps > 0) {
            MachineLoop oneLess = new MachineLoop(steps - 1);
            int stopped = ran(oneLess, signs);
            ended(oneLess, stopped, signs + " with one step less", 3, 0, 0);
            same("ended(4) of " + signs + " with one step less", oneLess.ended(stopped, 4), steps - 1);
            same("ended(5) of " + signs + " with one step less", oneLess.ended(stopped, 5), 0);
        }
    }

    static String times(int count, String text) {
        return text.repeat(count);
    }

    static void end() {
        if (wrong != 0) {
            System.out.println(wrong + " answers are not as due");
            System.exit(1);
        }
    }
}

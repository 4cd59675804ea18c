/** Promises 4 and 5: every error of a sign, where it is told, and which one comes first. */
public final class ErrorsTest {
    public static void main(String[] args) {
        anotherSign();
        loneBraces();
        tooFewNumbers();
        tooManyNumbers();
        resources();
        requests();
        policyOne();
        files();
        fullFiles();
        tooManyPages();
        tooDeepLoops();
        orderOfErrors();
        Check.end();
    }

    private static void anotherSign() {
        String known = "0123456789t+-*dxpmsgRDocwrf{}q% \n";
        for (int b = -128; b < 128; b++) {
            if (b >= 0 && known.indexOf((char) b) >= 0) {
                continue;
            }
            MachineLoop x = new MachineLoop(10);
            int job = Check.job(x, "111");
            x.add(job, (byte) b);
            x.add(job, (byte) '1');
            x.run();
            Check.ended(x, job, "the byte " + b, 2, 1, 3, 0, 4, 1);
        }
    }

    private static void loneBraces() {
        Check.fails("}", 1, 0, 1);
        Check.fails("s1{}}s", 1, 4, 5);
        Check.fails("0{}}", 1, 3, 3);
        Check.fails("1{", 7, 1, 2);
        Check.fails("0{", 7, 1, 2);
        Check.fails("s1{ss", 7, 2, 3);
        Check.fails("1{%}", 7, 1, 2);
        Check.fails("1{1{}", 7, 1, 2);
        Check.fails("0{{}s", 7, 1, 2);
    }

    private static void tooFewNumbers() {
        String one = "tdpmcr{";
        String two = "+-*xgRowf";
        for (int i = 0; i < one.length(); i++) {
            Check.fails(one.charAt(i) + "}", 5, 0, 1);
        }
        for (int i = 0; i < two.length(); i++) {
            Check.fails(two.charAt(i) + "1", 5, 0, 1);
            Check.fails("1" + two.charAt(i), 5, 1, 2);
        }
        Check.fails("D", 5, 0, 1);
        Check.fails("1D", 5, 1, 2);
        Check.fails("11D", 5, 2, 3);
        Check.fails("9pp", 5, 2, 3);
    }

    private static void tooManyNumbers() {
        Check.fails(Check.times(21, "7"), 6, 20, 21);
        Check.fails(Check.times(20, "7") + "d1", 6, 20, 21);
        Check.fails("3t{1}", 6, 3, 3 + 2 * 20 + 1);
    }

    private static void resources() {
        Check.fails("00R", 2, 2, 3);
        Check.fails("40R", 2, 2, 3);
        Check.fails("01-0R", 2, 4, 5);
        Check.fails("01tR", 2, 3, 4);
        Check.fails("001-R", 2, 4, 5);
        Check.fails("401D", 2, 3, 4);
        Check.fails("01t1D", 2, 4, 5);
        Check.fails("001tttt D", 2, 8, 8);
        Check.fails("0001-D", 2, 5, 6);
        Check.fails("315D 31R32R", 2, 10, 10);
        Check.shows("399ttt 9tt+9t+9+D 39Rms 300D30Rms", 30, 9999, 0);
        Check.shows("315D316D31Rms", 13, 6);
    }

    private static void requests() {
        String[] wrong = {"40", "01-1", "04", "001-", "10", "11t", "22", "201-", "32", "301-"};
        for (String w : wrong) {
            Check.fails(w + "g", 3, w.length(), w.length() + 1);
        }
        Check.shows("00g01g02g03g", 12);
        Check.shows("20g21g30g31g30g", 15);
        Check.shows("12gs11gs15gs13gs", 16, new int[11]);
        Check.shows("19g1ms", 6, 1, 1, 1, 1, 1, 1, 1, 1, 1);
    }

    private static void policyOne() {
        Check.shows("31g 40g 01-1g 04g 10g s 11tg s 22g 32g s", 30, 0, 0, 0);
        Check.shows("31g 12g 10g s", 10, 0, 0);
        Check.shows("7 31g 10g ms", 9, 7);
        Check.fails("31g30g10g", 3, 8, 9);
        Check.fails("31g1g", 5, 4, 5);
        Check.fails("31g00R", 2, 5, 6);
    }

    private static void files() {
        String[] wrong = {"1t0o", "01-0o", "03o", "001-o", "00o", "0c", "1c", "2c", "8c", "05w", "25w", "85w",
            "0r", "1r", "2r", "8r", "01f", "21f", "81f", "10f", "14f", "11f11f11f11f", "01o2r", "02o2r",
            "01o3c", "01o00o", "01o01o", "01o02o", "02o00o", "01oc00o01o", "01oc00o25w", "01o2c25w", "01oc2c",
            "01o21f22f23f21f", "01o11o21o31o41o51o61o"};
        for (String w : wrong) {
            Check.fails(w, 4, w.length() - 1, w.length());
        }
        Check.shows("11f12f13f 01o21f22f23f", 21);
        Check.shows("01oc00o00o00o00o00o00o pppppp", 28);
        Check.shows("01o11o21o31o41o51o7c61oms", 25, 7);
    }

    private static void fullFiles() {
        Check.fails("01o1tt1+{d1w}", 4, 11, 9 + 100 * 4 + 3);
        Check.fails("4tt1+{11w}", 4, 8, 6 + 400 * 4 + 3);
        Check.shows("4tt{11w}", 4 + 400 * 4);
        Check.shows("01o1tt{d1w}", 7 + 100 * 4);
    }

    private static void tooManyPages() {
        MachineLoop x = new MachineLoop(1000);
        int full = Check.ran(x, "4t{1ms}");
        Check.ended(x, full, "40 pages", 1, 0, 0, 40, 3 + 40 * 4, 0);
        Check.same("page 39", x.page(full, 39), 1);
        Check.same("page 40", x.page(full, 40), 0);
        int over = Check.fails(x, "4t1+{2ms}s", 6, 7, 5 + 40 * 4 + 3);
        Check.same("pages", x.ended(over, 3), 40);
        int copies = Check.fails(x, "19g4{3ms}5ms", 6, 11, 5 + 4 * 4 + 3);
        Check.same("pages in copies", x.ended(copies, 3), 36);
        Check.same("page 35", x.page(copies, 35), 3);
        Check.same("page 36", x.page(copies, 36), 0);
        int fits = Check.ran(x, "19g4{s}14g1ms");
        Check.ended(x, fits, "40 pages in copies", 1, 0, 0, 40, 5 + 4 * 2 + 6, 0);
        Check.same("page 39 of copies", x.page(fits, 39), 1);
    }

    private static void tooDeepLoops() {
        Check.fails("1{1{1{1{1{}}}}}", 6, 9, 10);
        Check.fails("1{1{1{1{0{}}}}}", 6, 9, 10);
        Check.fails("1{1{1{1{0{", 7, 1, 2);
        Check.shows("1{1{1{0{1{}}}}}s", 12, 0);
        Check.shows("1{1{1{1{}}}}1{1{1{1{}}}}", 24);
        Check.shows("1{1{1{0{{{}}}}}}", 11);
    }

    private static void orderOfErrors() {
        Check.fails("1{1{1{1{{", 7, 1, 2);
        Check.fails("1{1{1{1{{}}}}}", 5, 8, 9);
        Check.fails("{", 5, 0, 1);
        Check.fails("1{1{1{1{1{}}}}", 7, 1, 2);
        Check.fails("9R", 5, 1, 2);
        Check.fails("99g", 3, 2, 3);
    }
}

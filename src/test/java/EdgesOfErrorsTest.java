/** The sentences on ERRORS: what just has one, what just has none, and which one comes first. */
public final class EdgesOfErrorsTest {
    /** Each sign with as many numbers as it takes, such that it has no error. */
    private static final String[] FINE = {
        "1t", "12+", "12-", "12*", "1d", "12x", "1p", "1m", "s", "01g", "011D", "01o", "11w", "11f", "1{}", "q"};

    public static void main(String[] args) {
        otherSignsAreError1();
        closingBracesWithoutAnOpenOneAreError1();
        tooFewNumbersAreError5();
        enoughNumbersAreNoError();
        unknownResourcesAreError2();
        missingResourcesAreError2();
        valuesOutOfBoundsAreError2();
        wrongRequestsAreError3();
        policyOnePassesOverWrongRequests();
        wrongFileNumbersAreError4();
        whatIsNotOpenIsError4();
        whatCanNotBeOpenedIsError4();
        wrongModesForReadingAndWritingAreError4();
        fullOnesAreError4();
        handlesOfOthersAreError4();
        aFourthFilterIsError4();
        twentyOneNumbersAreError6();
        fortyOnePagesAreError6();
        fiveBlocksAreError6();
        aFifthBlockThatIsPassedOverIsError6();
        openBracesWithoutAnEndAreError7();
        tooFewNumbersComeFirst();
        theStackComesLast();
        bracesPassedOverAreNotLookedAt();
        errorsAreToldWithThePlace();
        signsBehindAreFlushed();
        Check.end();
    }

    private static void failsAtLast(String signs, int error) {
        Check.fails(signs, error, signs.length() - 1, signs.length());
    }

    /** "1 another sign". */
    private static void otherSignsAreError1() {
        String known = "0123456789t+-*dxpmsgRDocwrf{}q% \n";
        for (int b = 0; b < 256; b++) {
            if (known.indexOf((char) b) < 0) {
                Check.fails("1111" + (char) b + "s", 1, 4, 5);
            }
        }
    }

    /** "or a } that no { goes with". */
    private static void closingBracesWithoutAnOpenOneAreError1() {
        Check.fails("}", 1, 0, 1);
        Check.fails("1{}}", 1, 3, 4);
        Check.fails("0{}}", 1, 3, 3);
        Check.fails("}1{}", 1, 0, 1);
        Check.fails("2{1{}}}", 1, 6, 2 + 2 * 4 + 1);
    }

    /** "5 the STACK has too few": one less than each sign takes. */
    private static void tooFewNumbersAreError5() {
        for (String sign : new String[] {"t", "d", "p", "m", "c", "r", "{"}) {
            failsAtLast(sign, 5);
        }
        for (String sign : new String[] {"+", "-", "*", "x", "g", "R", "o", "w", "f"}) {
            failsAtLast(sign, 5);
            failsAtLast("1" + sign, 5);
        }
        for (String numbers : new String[] {"", "1", "11"}) {
            failsAtLast(numbers + "D", 5);
        }
    }

    private static void enoughNumbersAreNoError() {
        for (String signs : FINE) {
            MachineLoop x = new MachineLoop(100);
            Check.same("error of " + signs, x.ended(Check.ran(x, signs), 1), 0);
        }
        Check.shows("011D01R", 7);
        Check.shows("01oc", 4);
        Check.shows("01oc00or", 8);
    }

    /** "2 no such CATEGORY or name". */
    private static void unknownResourcesAreError2() {
        for (String which : new String[] {"40", "49", "01-0", "01t", "31t", "001-", "301-", "51t"}) {
            failsAtLast(which + "R", 2);
            failsAtLast(which + "1D", 2);
        }
    }

    /** "(R) no such RESOURCE". */
    private static void missingResourcesAreError2() {
        failsAtLast("00R", 2);
        failsAtLast("39R", 2);
        failsAtLast("011D10R", 2);
        failsAtLast("011D00R", 2);
        Check.shows("010D01Rms", 9, 0);
    }

    /** "(D) a value out of its bounds". */
    private static void valuesOutOfBoundsAreError2() {
        failsAtLast("0001-D", 2);
        failsAtLast("00" + Check.number(10000) + "D", 2);
        failsAtLast("00" + Check.number(Integer.MIN_VALUE) + "D", 2);
        failsAtLast("00" + Check.number(Integer.MAX_VALUE) + "D", 2);
        Check.shows("000D", 4);
        Check.shows("00" + Check.number(9999) + "D", 13);
    }

    /** "3 (g) no such SETTING, or v is out of its bounds". */
    private static void wrongRequestsAreError3() {
        for (String request : new String[] {"40", "01-0", "001-", "04", "10", "11t", "201-", "22", "301-", "32"}) {
            failsAtLast(request + "g", 3);
        }
    }

    /** "with POLICY 1 nothing happens then": no error, and the settings are as they were. */
    private static void policyOnePassesOverWrongRequests() {
        for (String request : new String[] {"40", "01-0", "001-", "04", "10", "11t", "201-", "22", "301-", "32"}) {
            Check.shows("31g12g" + request + "g5ms", 10 + request.length(), 5, 5);
        }
        failsAtLast("31g30g10g", 3);
        failsAtLast("31g32g30g10g", 3);
        failsAtLast("31g1g", 5);
        MachineLoop x = new MachineLoop(100);
        x.device(3, 1);
        Check.ended(x, Check.ran(x, "10g44g"), "with POLICY 1 of a call", 1, 0, 0, 0, 6, 0);
        Check.fails(x, "30g10g", 3, 5, 6);
        Check.ended(x, Check.ran(x, "10g44g"), "with POLICY 1 put back", 1, 0, 0, 0, 6, 0);
    }

    /** "4 no such name, MODE, FILTER". */
    private static void wrongFileNumbersAreError4() {
        for (String signs : new String[] {"1t1o", "01-1o", "03o", "001-o", "10f", "14f", "101-f"}) {
            failsAtLast(signs, 4);
        }
        Check.shows("91o", 3);
        Check.shows("11f", 3);
        Check.shows("13f", 3);
    }

    /** "no open HANDLE". */
    private static void whatIsNotOpenIsError4() {
        for (String handle : new String[] {"01-", "0", "2", "7", "8"}) {
            failsAtLast(handle + "c", 4);
            failsAtLast(handle + "r", 4);
            failsAtLast(handle + "1w", 4);
            failsAtLast(handle + "1f", 4);
        }
        failsAtLast("01o3c", 4);
        failsAtLast("01oc2c", 4);
    }

    /** "it can not be OPENED": it is not there, open in a way against it, or no HANDLE is free. */
    private static void whatCanNotBeOpenedIsError4() {
        for (String signs : new String[] {"00o", "01o00o", "01o01o", "01o02o", "02o00o", "02o01o", "02o02o",
                "01oc00o01o", "01oc00o02o", "01o11o21o31o41o51o61o", "01o11o21o31o41o51o62o"}) {
            failsAtLast(signs, 4);
        }
        failsAtLast("61oc01o11o21o31o41o51o60o", 4);
        Check.shows("01oc00o00o00o00o00o00o", 22);
        failsAtLast("01oc00o00o00o00o00o00o00o", 4);
    }

    /** "is not of a MODE for this". */
    private static void wrongModesForReadingAndWritingAreError4() {
        failsAtLast("01or", 4);
        failsAtLast("02or", 4);
        failsAtLast("1r", 4);
        failsAtLast("01oc00o1w", 4);
        Check.shows("01o1w", 5);
        Check.shows("02o1w", 5);
        Check.shows("11w", 3);
    }

    /** "is full". */
    private static void fullOnesAreError4() {
        Check.shows("01o1tt{d1w}", 7 + 100 * 4);
        Check.fails("01o1tt{d1w}1w", 4, 12, 7 + 100 * 4 + 2);
        Check.shows("4tt{11w}", 4 + 400 * 4);
        Check.fails("4tt{11w}11w", 4, 10, 4 + 400 * 4 + 3);
    }

    /** "was not opened by this job (c)": others may be used, but not closed. */
    private static void handlesOfOthersAreError4() {
        failsAtLast("1c", 4);
        MachineLoop x = new MachineLoop(1000);
        x.file(0, 1);
        x.file(1, 2);
        x.file(2, 1);
        x.close(4);
        x.file(2, 0);
        for (int handle = 2; handle <= 4; handle++) {
            Check.fails(x, handle + "c", 4, 1, 2);
        }
        Check.ended(x, Check.ran(x, "21w31w4r41f21f31f"), "those of others", 1, 0, 0, 0, 17, 0);
        Check.ended(x, Check.ran(x, "51oc"), "its own", 1, 0, 0, 0, 4, 0);
        for (int handle = 2; handle <= 4; handle++) {
            Check.same("close(" + handle + ")", x.close(handle), 1);
        }
    }

    /** "or has 3 FILTERS": also if they are not of this job. */
    private static void aFourthFilterIsError4() {
        Check.shows("11f12f13f", 9);
        failsAtLast("11f12f13f11f", 4);
        MachineLoop x = new MachineLoop(1000);
        x.filter(1, 1);
        x.filter(1, 1);
        Check.fails(x, "11f11f", 4, 5, 6);
        Check.ended(x, Check.ran(x, "11f"), "the third", 1, 0, 0, 0, 3, 0);
        Check.same("filter(1, 1), the third", x.filter(1, 1), 3);
        Check.fails(x, "11f", 4, 2, 3);
    }

    /** "6 the STACK would have more than 20". */
    private static void twentyOneNumbersAreError6() {
        String twenty = Check.times(20, "1");
        Check.shows(twenty, 20);
        for (int d = 0; d <= 9; d++) {
            failsAtLast(twenty + d, 6);
        }
        Check.shows(Check.times(19, "1") + "d", 20);
        failsAtLast(twenty + "d", 6);
        failsAtLast("1" + Check.times(20, "d"), 6);
        Check.shows(twenty + "p1", 22);
        Check.shows(twenty + "t", 21);
        Check.shows(twenty + "x", 21);
        Check.shows(twenty + "+1", 22);
        Check.shows(twenty + "pp01o1", 26);
        failsAtLast(twenty + "pp01o11", 6);
    }

    /** "the job more than 40 PAGES (none of that sign is shown then)". */
    private static void fortyOnePagesAreError6() {
        pages("4t{s}", 1, 40);
        pages("4t{s}s", 2, 40);
        pages("12g4t{s}", 2, 40);
        pages("12g2t{s}", 1, 40);
        pages("19g4{s}14gs", 1, 40);
        pages("19g4{s}15gs", 2, 36);
        pages("19g5{s}", 2, 36);
        pages("14g9{s}15gs", 2, 36);
        pages("13g9{s}4{s}11gs", 1, 40);
        pages("13g9{s}4{s}12gs", 2, 39);
    }

    private static void pages(String signs, int outcome, int pages) {
        MachineLoop x = new MachineLoop(1000);
        int job = Check.ran(x, signs);
        Check.same("ended(0) of " + signs, x.ended(job, 0), outcome);
        Check.same("ended(1) of " + signs, x.ended(job, 1), outcome == 1 ? 0 : 6);
        Check.same("ended(3) of " + signs, x.ended(job, 3), pages);
    }

    /** "more than 4 { one in the other". */
    private static void fiveBlocksAreError6() {
        Check.shows("1{1{1{1{s}}}}", 13, 0);
        Check.fails("1{1{1{1{1{s}}}}}", 6, 9, 10);
        Check.shows("1{1{1{1{}1{}}}}", 15);
        Check.shows("1{1{1{1{}}}}1{1{1{1{}}}}", 24);
        Check.shows("5{1{1{1{}}}}", 2 + 5 * 10);
        Check.shows("1{1{1{1{}}0{}1{1{}}}}", 20);
        Check.fails("1{1{1{1{}1{1{}}}}}", 6, 12, 13);
    }

    /** "(also if the fifth would be passed over)". */
    private static void aFifthBlockThatIsPassedOverIsError6() {
        Check.fails("1{1{1{1{0{s}}}}}", 6, 9, 10);
        Check.fails("1{1{1{1{01-{s}}}}}", 6, 11, 12);
        Check.shows("1{1{1{0{0{s}}}}}s", 12, 0);
    }

    /** "7 (at a {) no } goes with it": also if it would be passed over. */
    private static void openBracesWithoutAnEndAreError7() {
        Check.fails("1{", 7, 1, 2);
        Check.fails("0{", 7, 1, 2);
        Check.fails("01-{s", 7, 3, 4);
        Check.fails("1{1{}", 7, 1, 2);
        Check.fails("0{1{}", 7, 1, 2);
        Check.fails("1{}1{", 7, 4, 5);
        Check.fails("1{1{1{1{1{", 7, 1, 2);
        Check.shows("q1{", 1);
    }

    /** "Of one sign 5 comes first": the same signs have another error if there are enough. */
    private static void tooFewNumbersComeFirst() {
        failsAtLast("9R", 5);
        failsAtLast("99R", 2);
        failsAtLast("99D", 5);
        failsAtLast("999D", 2);
        failsAtLast("9g", 5);
        failsAtLast("99g", 3);
        failsAtLast("9o", 5);
        failsAtLast("99o", 4);
        failsAtLast("9w", 5);
        failsAtLast("99w", 4);
        failsAtLast("9f", 5);
        failsAtLast("99f", 4);
        failsAtLast("{", 5);
        failsAtLast("9{", 7);
        Check.fails("1{1{1{1{{}}}}}", 5, 8, 9);
        Check.fails("1{1{1{1{9{}}}}}", 6, 9, 10);
    }

    /** "6 of the STACK last": with a full one, other errors come before it. */
    private static void theStackComesLast() {
        String eighteen = Check.times(18, "1");
        failsAtLast(eighteen + "99R", 2);
        failsAtLast(eighteen + "99o", 4);
        failsAtLast(eighteen + "99r", 4);
        Check.fails(Check.times(20, "1") + "!", 1, 20, 21);
        Check.fails(Check.times(20, "1") + "}", 1, 20, 21);
        Check.shows("011D" + eighteen + "01R1", 4 + 22);
    }

    /** "(A { that is passed over .. is not looked at, but for the } that go with them.)". */
    private static void bracesPassedOverAreNotLookedAt() {
        Check.shows("0{{}}s", 3, 0);
        Check.shows("0{{{{{{{}}}}}}}s", 3, 0);
        Check.shows("1{1{1{1{}}}0{{{{}}}}}s", 15, 0);
        Check.shows("0{x x { y } }s", 3, 0);
        Check.fails("0{{}!", 7, 1, 2);
        Check.fails("0{}}{", 1, 3, 3);
    }

    /** "An ERROR is told with the place of the sign": also of those passed over before it. */
    private static void errorsAreToldWithThePlace() {
        Check.fails("!", 1, 0, 1);
        Check.fails(" \n%!\n!", 1, 5, 1);
        Check.fails(Check.times(199, " ") + "!", 1, 199, 1);
        Check.fails("3{s!}", 1, 3, 4);
        Check.fails("3{p}", 5, 2, 3);
        Check.fails("1 2 3{p}", 5, 6, 3 + 1 + 2 + 2 + 1);
    }

    /** "all signs behind it are FLUSHED": none behind the last, 199 behind the first. */
    private static void signsBehindAreFlushed() {
        MachineLoop x = new MachineLoop(1000);
        Check.ended(x, Check.ran(x, "!" + Check.times(199, "s")), "! and 199 more", 2, 1, 0, 0, 1, 199);
        x = new MachineLoop(1000);
        Check.ended(x, Check.ran(x, Check.times(199, "1m").substring(0, 198) + "1!"), "! at last", 2, 1, 199, 0, 200, 0);
        x = new MachineLoop(1000);
        Check.ended(x, Check.ran(x, "s!s s%s\n"), "s!s s%s", 2, 1, 1, 1, 2, 6);
        Check.ended(x, Check.ran(x, "sqs s"), "q flushes none", 1, 0, 0, 1, 2, 0);
        x = new MachineLoop(1);
        Check.ended(x, Check.ran(x, "sss"), "a stop flushes none", 3, 0, 0, 1, 1, 0);
    }
}

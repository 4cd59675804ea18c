/** Promise 4: what each sign does, seen through the pages that jobs show. */
public final class SignsTest {
    public static void main(String[] args) {
        digits();
        arithmetic();
        order();
        marks();
        passedOver();
        loops();
        end();
        files();
        Check.end();
    }

    private static void digits() {
        for (int d = 0; d < 10; d++) {
            Check.shows(d + "ms", 3, d);
        }
    }

    private static void arithmetic() {
        Check.shows("7tms", 4, 70);
        Check.shows("4 3+ms", 5, 7);
        Check.shows("4 3-ms", 5, 1);
        Check.shows("3 4-ms", 5, -1);
        Check.shows("3 4-tms", 6, -10);
        Check.shows("4 3*ms", 5, 12);
        Check.shows("1ttttttttt3*ms", 14, -1294967296);
        Check.shows("1tttttttttttms", 14, 1215752192);
        Check.shows("2ttttttttt" + "d+ms", 14, -294967296);
        Check.shows("0 2ttttttttt-1ttttttttt-ms", 25, 1294967296);
        Check.shows("9ttttttttd*ms", 13, (int) (900000000L * 900000000L));
    }

    private static void order() {
        Check.shows("5d+ms", 5, 10);
        Check.shows("5dmsms", 6, 5, 5);
        Check.shows("7 2xmsms", 7, 7, 2);
        Check.shows("7 2x-ms", 6, -5);
        Check.shows("1 2 3p-ms", 7, -1);
        Check.shows("1 2pms", 5, 1);
        Check.shows(Check.times(20, "1"), 20);
        Check.shows(Check.times(19, "1") + "d", 20);
        Check.shows(Check.times(20, "1") + "x+t-pp", 26);
        Check.shows(Check.times(20, "1") + Check.times(20, "p"), 40);
    }

    private static void marks() {
        Check.shows("s", 1, 0);
        Check.shows("1m2m3ms4mss", 11, 31 * (31 + 2) + 3, 4, 0);
        Check.shows("1m0m0m0m0m0m0ms", 15, 887503681);
        Check.shows("1m0m0m0m0m0m0m0ms", 17, (int) (887503681L * 31));
    }

    private static void passedOver() {
        Check.shows("", 0);
        Check.shows(" \n \n", 0);
        Check.shows("%", 0);
        Check.shows("% q { } ! %", 0);
        Check.shows("1 % 5m { } %\nm\ns%", 3, 1);
        Check.shows("%\n2ms", 3, 2);
        Check.shows("2{% }\n3m%{\n}s", 9, 31 * 3 + 3);
        Check.shows("0{%}\n!}s", 3, 0);
    }

    private static void loops() {
        Check.shows("0{1m}s", 3, 0);
        Check.shows("1{1m}s", 6, 1);
        Check.shows("3{1m}s", 12, 31 * (31 + 1) + 1);
        Check.shows("0 1-{!}s", 5, 0);
        Check.shows("3{}", 5);
        Check.shows("0{}", 2);
        Check.shows("2{3{1m}s}", 28, 993, 993);
        Check.shows("2{0{}}", 8);
        Check.shows("1{1{1{1{5ms}}}}", 15, 5);
        Check.shows("1{1{1{1{}1{}}1{}}1{}}s", 22, 0);
        Check.shows("0{{{{{{!}}}}}}s", 3, 0);
        Check.shows("0{ { } x { } }s", 3, 0);
        Check.shows("3 5{1+}ms", 20, 8);
        Check.shows("1 2{d{s}1+}", 19, 0, 0, 0);
    }

    private static void end() {
        Check.shows("q", 1);
        Check.shows("sq!!!", 2, 0);
        Check.shows("5{sq}", 4, 0);
        Check.shows("5{5{q{{{!}}}}}", 5);
    }

    private static void files() {
        Check.shows("31oms", 5, 2);
        Check.shows("31o41o51omsmsms", 15, 4, 3, 2);
        Check.shows("31oc41oms", 9, 2);
        Check.shows("31o41o2c51oms", 13, 2);
        Check.shows("32o5w", 5);
        Check.shows("32o5w2c30odrmsrms", 17, 5, -1);
    }
}

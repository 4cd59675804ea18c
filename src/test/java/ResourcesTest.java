/** Promises 8 and 9: resources. */
public final class ResourcesTest {
    private static final int[] WRONG = {-1, 10, Integer.MIN_VALUE, Integer.MAX_VALUE};

    public static void main(String[] args) {
        eachHasItsValue();
        valuesAreBounded();
        unknownOnesAreRefused();
        jobsSeeThem();
        Check.end();
    }

    private static void eachHasItsValue() {
        MachineLoop x = new MachineLoop(100);
        for (int category = 0; category < 4; category++) {
            for (int name = 0; name < 10; name++) {
                Check.same("resource before", x.resource(category, name), -3);
                Check.same("define", x.define(category, name, 100 * category + name), 1);
            }
        }
        for (int category = 0; category < 4; category++) {
            for (int name = 0; name < 10; name++) {
                Check.same("resource", x.resource(category, name), 100 * category + name);
            }
        }
    }

    private static void valuesAreBounded() {
        MachineLoop x = new MachineLoop(100);
        int[] outside = {-1, 10000, Integer.MIN_VALUE, Integer.MAX_VALUE};
        for (int v : outside) {
            Check.same("define(2, 3, " + v + ")", x.define(2, 3, v), -2);
        }
        Check.same("resource after refusals", x.resource(2, 3), -3);
        Check.same("define the most", x.define(2, 3, 9999), 1);
        Check.same("resource of the most", x.resource(2, 3), 9999);
        Check.same("define another value", x.define(2, 3, 0), 1);
        Check.same("define out of range", x.define(2, 3, 10000), -2);
        Check.same("resource of the least", x.resource(2, 3), 0);
    }

    private static void unknownOnesAreRefused() {
        MachineLoop x = new MachineLoop(100);
        for (int wrong : WRONG) {
            Check.same("define of a name " + wrong, x.define(0, wrong, 1), -1);
            Check.same("define of a category " + wrong, x.define(wrong, 0, -1), -1);
            Check.same("resource of a name " + wrong, x.resource(0, wrong), -1);
            Check.same("resource of a category " + wrong, x.resource(wrong, 0), -1);
        }
        Check.same("define(4, 0, 0)", x.define(4, 0, 0), -1);
        Check.same("resource(4, 0)", x.resource(4, 0), -1);
        Check.same("define(4, 0, -1)", x.define(4, 0, -1), -1);
    }

    private static void jobsSeeThem() {
        MachineLoop x = new MachineLoop(100);
        x.define(3, 9, 1234);
        Check.pages(x, Check.ran(x, "39Rms"), "39Rms", 1234);
    }
}

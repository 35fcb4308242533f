/** Promise 7, and .set and .forget. */
public final class ConstantTest {
    private static final String IOOBE = "IndexOutOfBoundsException";
    private static final String IAE = "IllegalArgumentException";

    public static void main(String[] args) {
        House h = new House("ConstantTest");
        told(h);
        order(h);
        wrongLines(h);
        longNames(h);
        tooMany(h);
        h.done();
    }

    private static void told(House h) {
        MacroHouse house = h.gives("", ".set ab_1 , 5", ".set _,-1", ".set abcdefghijkl,2");
        h.same("constants", House.constants(house), "ab_1=5 _=-1 abcdefghijkl=2");
        h.same("about 5", house.about(5), 3);
        h.same("a sign", house.constant(0, 2), (int) 'b');
        h.same("behind the name", house.constant(0, 5), -1);
        h.same("behind a name of 12", house.constant(2, 13), -1);
        h.same("far behind", house.constant(0, Integer.MAX_VALUE), -1);
        h.throwing("constant 3", IOOBE, () -> house.constant(3, 0));
        h.throwing("constant -1", IOOBE, () -> house.constant(-1, 0));
        h.throwing("the index is told first", IOOBE, () -> house.constant(3, -1));
        h.throwing("what -1", IAE, () -> house.constant(2, -1));
        h.throwing("the least what", IAE, () -> house.constant(2, Integer.MIN_VALUE));
        house.end(0);
        House.fill(house, "zzzzzzzzzzzzzzzzz");
        h.same("they outlive the text", House.constants(house), "ab_1=5 _=-1 abcdefghijkl=2");
        house.expand();
        h.same("all anew", house.about(5), 0);
    }

    private static void order(House h) {
        MacroHouse house = h.gives("", ".set a,1", ".set bbb,2", ".set c,3", ".set a,a+9",
                ".forget bbb", ".set d,c+1");
        h.same("in place", House.constants(house), "a=10 c=3 d=4");
        house = h.gives("", ".set a,1", ".set bbb,2", ".set c,3", ".forget a", ".set a,?a+7");
        h.same("told again", House.constants(house), "bbb=2 c=3 a=7");
        house = h.gives("", ".set a,1", ".set b,2", ".forget  b ", ".forget a");
        h.same("none left", House.constants(house), "");
        house = h.faults(3, 3, ".set a,1", ".set b,2", ".forget a", ".set a,a");
        h.same("as they were at the fault", House.constants(house), "b=2");
        h.faults(3, 2, ".set a,1", ".forget a", ".forget a");
        h.faults(3, 0, ".forget a");
    }

    private static void wrongLines(House h) {
        String[] wrong = {".set", ".set k", ".set k,", ".set ,1", ".set 1,1", ".set k 1",
            ".set k=1", ".set k l,1", ".set K,1", ".set kA,1", ".set abcdefghijklm,1", ".set(k,1)",
            ".set k,1,", ".forget", ".forget 1", ".forget a b", ".forget a,", ".forget A",
            ".forget abcdefghijklm"};
        for (String line : wrong) {
            h.faults(1, 1, ".set a,1", line);
        }
        h.gives("x", ".if 0", ".set k", ".forget a", ".endif", "x");
    }

    private static String sets(int n) {
        StringBuilder text = new StringBuilder();
        for (int k = 0; k < n; k++) {
            text.append(".set k").append(k).append(',').append(k).append('\n');
        }
        return text.toString();
    }

    private static void longNames(House h) {
        StringBuilder text = new StringBuilder();
        for (int k = 10; k < 74; k++) {
            text.append(".set abcdefghij").append(k).append(',').append(k).append('\n');
        }
        MacroHouse house = h.gives("", text + ".set abcdefghij73,abcdefghij73+1");
        h.same("the last", house.constant(63, 0), 74);
        h.same("its last sign", house.constant(63, 12), (int) '3');
    }

    private static void tooMany(House h) {
        MacroHouse house = h.gives("", sets(64) + ".set k63,5");
        h.same("64", house.about(5), 64);
        h.same("the last", house.constant(63, 0), 5);
        house = h.faults(6, 64, sets(64) + ".set l,5");
        h.same("no more than 64", house.about(5), 64);
        h.faults(3, 64, sets(64) + ".set l,zz");
        house = h.gives("", sets(64) + ".forget k0\n.set l,5");
        h.same("one in place of another", house.constant(63, 0), 5);
        h.same("the one ahead of it", house.constant(62, 0), 63);
        h.same("its name", (char) house.constant(62, 2) + "" + (char) house.constant(62, 3), "63");
    }
}

import java.io.IOException;
import java.nio.file.Files;
import java.nio.file.Path;

/** What README.md shows is so; read from the checkout's root, where .ci/run starts the tests. */
public final class ReadmeTest {
    public static void main(String[] args) throws IOException {
        House h = new House("ReadmeTest");
        String readme = Files.readString(Path.of("README.md"));
        MacroHouse house = h.gives("add b,(2,0)|add b,(2,1)|add a,1",
                part(readme, "```text\n", "\n```"));
        h.same("what it says goes out",
                readme.contains("gives `add b,(2,0)`, `add b,(2,1)` and `add a,1`"), true);
        h.same("the lines they came from", house.line(0, 1) + " " + house.line(1, 1) + " "
                + house.line(2, 1), "4 4 8");
        h.same("what was open", house.line(0, 2) + " " + house.line(1, 2) + " "
                + house.line(2, 2), "2 2 1");
        h.same("the macro", House.macros(house), "inc:2,1,0,3");
        h.same("the constant", House.constants(house), "n=2");
        use(h);
        h.done();
    }

    private static void use(House h) {
        MacroHouse house = House.with(".set n,2\n.macro m\nab\n.endm\nm");
        h.same("lines", house.expand(), 1);
        h.same("kind", house.about(0), 0);
        h.same("its line", house.about(1), MacroHouse.NONE);
        h.same("sign", house.line(0, 3), (int) 'a');
        h.same("number", house.constant(0, 0), 2);
        h.same("calls", house.macro(0, 3), 1);
        house.end(0);
        h.same("told stays told", House.out(house), "ab");
    }

    private static String part(String all, String ahead, String behind) {
        int from = all.indexOf(ahead) + ahead.length();
        return all.substring(from, all.indexOf(behind, from));
    }
}

import java.util.ArrayList;
import java.util.List;

/** What the tests share: a house with a text, what it tells in one go, and a count of wrongs. */
final class House {
    private final String test;
    private String sentence = "";
    private int wrong = 0;
    private int checks = 0;

    House(String test) {
        this.test = test;
    }

    /** A new object with that text, not expanded yet. */
    static MacroHouse with(String text) {
        MacroHouse house = new MacroHouse();
        fill(house, text);
        return house;
    }

    static void fill(MacroHouse house, String text) {
        for (int k = 0; k < text.length(); k += 4) {
            int four = 0;
            for (int j = 0; j < 4 && k + j < text.length(); j++) {
                four |= text.charAt(k + j) << (8 * j);
            }
            house.put(four);
        }
    }

    static String lines(String... lines) {
        return String.join("\n", lines);
    }

    static String times(int n, String part) {
        return part.repeat(n);
    }

    static String signsOf(MacroHouse house, int i) {
        StringBuilder signs = new StringBuilder();
        for (int k = 0; house.line(i, 3 + k) != MacroHouse.NONE; k++) {
            signs.append((char) house.line(i, 3 + k));
        }
        return signs.toString();
    }

    /** All that went out, with | between the lines. */
    static String out(MacroHouse house) {
        List<String> lines = new ArrayList<>();
        for (int i = 0; i < house.about(6); i++) {
            lines.add(signsOf(house, i));
        }
        return String.join("|", lines);
    }

    static String constants(MacroHouse house) {
        List<String> told = new ArrayList<>();
        for (int i = 0; i < house.about(5); i++) {
            StringBuilder name = new StringBuilder();
            for (int k = 1; house.constant(i, k) != MacroHouse.NONE; k++) {
                name.append((char) house.constant(i, k));
            }
            told.add(name + "=" + house.constant(i, 0));
        }
        return String.join(" ", told);
    }

    static String macros(MacroHouse house) {
        List<String> told = new ArrayList<>();
        for (int i = 0; i < house.about(4); i++) {
            StringBuilder name = new StringBuilder();
            for (int k = 4; house.macro(i, k) != MacroHouse.NONE; k++) {
                name.append((char) house.macro(i, k));
            }
            told.add(name + ":" + house.macro(i, 0) + "," + house.macro(i, 1) + ","
                    + house.macro(i, 2) + "," + house.macro(i, 3));
        }
        return String.join(" ", told);
    }

    /** Everything that the house tells. */
    static String all(MacroHouse house) {
        StringBuilder told = new StringBuilder();
        for (int what = 0; what <= 8; what++) {
            told.append(house.about(what)).append(' ');
        }
        for (int i = 0; i < house.about(6); i++) {
            told.append(house.line(i, 1)).append(',').append(house.line(i, 2)).append(' ');
        }
        return told + out(house) + " " + constants(house) + " " + macros(house);
    }

    /** The sentence of the document that the checks behind it test; told with each wrong one. */
    void says(String words) {
        sentence = " '" + words + "':";
    }

    void same(String what, Object got, Object due) {
        checks++;
        if (!got.equals(due)) {
            wrong++;
            System.out.println(test + ":" + sentence + " " + brief(what) + " is " + brief(got)
                    + ", due is " + brief(due));
        }
    }

    /** Without the middle of what is long. */
    private static String brief(Object told) {
        String all = String.valueOf(told);
        return all.length() <= 400 ? all
                : all.substring(0, 200) + " .. " + all.substring(all.length() - 190);
    }

    /** What must go out of the text, without a fault. */
    MacroHouse gives(String due, String... lines) {
        String text = lines(lines);
        MacroHouse house = with(text);
        int count = house.expand();
        same("fault of " + text, house.about(0), 0);
        same("fault's line of " + text, house.about(1), MacroHouse.NONE);
        same("answer of " + text, count, house.about(6));
        same("output of " + text, out(house), due);
        return house;
    }

    /** The fault that the text must have. */
    MacroHouse faults(int kind, int line, String... lines) {
        String text = lines(lines);
        MacroHouse house = with(text);
        int count = house.expand();
        same("answer of " + text, count, MacroHouse.NONE);
        same("fault of " + text, house.about(0), kind);
        same("fault's line of " + text, house.about(1), line);
        return house;
    }

    /** The exception that the call must throw, by its name; "" for none. */
    void throwing(String what, String due, Runnable call) {
        String got = "";
        try {
            call.run();
        } catch (RuntimeException e) {
            got = e.getClass().getSimpleName();
        }
        same("exception of " + what, got, due);
    }

    void done() {
        System.out.println(test + ": " + checks + " checks, " + wrong + " wrong");
        if (wrong != 0) {
            System.exit(1);
        }
    }
}

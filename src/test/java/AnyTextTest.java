import java.util.ArrayList;
import java.util.List;

/**
 * Texts put together by chance, always the same ones: whatever stands in a text, its answers hold
 * together and nothing but the exceptions of the document is thrown.
 *
 * <p>The document promises an object's first 512 calls alone; this program counts none, so one
 * object goes over all the texts and must tell what a new one tells.
 */
public final class AnyTextTest {
    private static final int TEXTS = 4000;
    private static final int ROUNDS = 20;
    private static final String[] LINES = {
        "", "x", "  y # z", "\\a", "\\w=\\?", "l\\@:", "\\a \\w", "\\", "\\?\\@", "m", "m 1", "m p,q",
        "m (p,q),", "m \\a", "n", "n \\a,\\?", "n )(", "n ,,,", ".macro m a=1", ".macro m a,b=",
        ".macro n", ".macro n w=(,a=\\b", ".macro", ".endm", ".endm", ".endm \\q", ".set k,1",
        ".set k,k+1", ".set k\\?,\\?*7", ".set z,1/0", ".set k,999999999*9", ".forget k", ".if 1",
        ".if 0", ".if k==1", ".if ?k", ".if \\?<2", ".ifsame \\a,p", ".ifsame a,a", ".elseif 1",
        ".elseif \\a", ".elseif\\a", ".else", ".else\\a", ".endif", ".endif", ".endif \\w",
        ".rept 2", ".rept 0", ".rept k", ".rept 100", ".rept 101", ".each w,p,q", ".each w,",
        ".each a,(1,2),.if 1", ".each w,.endif", ".endr", ".endr", ".endr", ".leave", ".stop it",
        ".foo", ".\\a", ".if ----------1", ".if -----------1", ".set k,((((((((((1))))))))))"};

    private static int chance = 1;

    public static void main(String[] args) {
        House h = new House("AnyTextTest");
        MacroHouse used = new MacroHouse();
        for (int k = 0; k < TEXTS; k++) {
            String text = k % 5 == 0 ? signs() : lines();
            // Without the line of its fault a text is gone over further.
            for (int round = 0; round < ROUNDS && text != null; round++) {
                text = withoutFault(text, check(h, used, text));
            }
        }
        h.done();
    }

    /** The line of the text's fault, NONE without one. */
    private static int check(House h, MacroHouse used, String text) {
        MacroHouse fresh = House.with(text);
        try {
            int answer = fresh.expand();
            holdsTogether(h, text, fresh, answer);
            used.end(0);
            House.fill(used, text);
            h.same("answer of a used object for " + text, used.expand(), answer);
            h.same("what a used object tells for " + text, House.all(used), House.all(fresh));
            return fresh.about(1);
        } catch (RuntimeException e) {
            h.same("what is thrown for " + text, e.toString(), "");
            return MacroHouse.NONE;
        }
    }

    /** Null if there is no fault, or nothing left. */
    private static String withoutFault(String text, int line) {
        List<String> lines = new ArrayList<>(List.of(text.split("\n", -1)));
        if (line < 0 || line >= lines.size() || lines.size() == 1) {
            return null;
        }
        lines.remove(line);
        return String.join("\n", lines);
    }

    private static int below(int n) {
        chance = chance * 1103515245 + 12345;
        return (chance >>> 8) % n;
    }

    private static String lines() {
        StringBuilder text = new StringBuilder();
        int count = 1 + below(25);
        for (int k = 0; k < count; k++) {
            text.append(k == 0 ? "" : "\n").append(LINES[below(LINES.length)]);
        }
        return text.toString();
    }

    /** Lines with some of their signs changed. */
    private static String signs() {
        StringBuilder text = new StringBuilder(lines());
        for (int k = below(8); k > 0 && text.length() > 0; k--) {
            int sign = below(96);
            text.setCharAt(below(text.length()), (char) (sign == 95 ? '\n' : ' ' + sign));
        }
        return text.toString();
    }

    private static void holdsTogether(House h, String text, MacroHouse house, int answer) {
        boolean good = house.about(0) == 0;
        int lines = text.split("\n", -1).length;
        h.same("answer of " + text, answer, good ? house.about(6) : MacroHouse.NONE);
        h.same("a kind of " + text, house.about(0) >= 0 && house.about(0) <= 7, true);
        h.same("a line of " + text, house.about(1) == MacroHouse.NONE, good);
        h.same("a line of the text " + text, house.about(1) < lines, true);
        h.same("lines looked at of " + text, house.about(2) >= 1 && house.about(2) <= 4000, true);
        h.same("at most open of " + text, house.about(8) >= 0 && house.about(8) <= 12, true);
        h.same("calls of " + text, callsOfMacros(house), house.about(3));
        h.same("signs of " + text, signsOfLines(house, lines), house.about(7));
        h.throwing("line behind " + text, "IndexOutOfBoundsException",
                () -> house.line(house.about(6), 0));
        h.throwing("constant behind " + text, "IndexOutOfBoundsException",
                () -> house.constant(house.about(5), 0));
        h.throwing("macro behind " + text, "IndexOutOfBoundsException",
                () -> house.macro(house.about(4), 0));
    }

    private static int callsOfMacros(MacroHouse house) {
        int calls = 0;
        for (int i = 0; i < house.about(4); i++) {
            calls += house.macro(i, 3);
        }
        return calls;
    }

    /** NONE if a line is empty, has blanks at its ends or didn't come from where it could. */
    private static int signsOfLines(MacroHouse house, int lines) {
        int signs = 0;
        int from = 0;
        for (int i = 0; i < house.about(6); i++) {
            String line = House.signsOf(house, i);
            boolean inOrder = house.line(i, 1) >= from && house.line(i, 1) < lines;
            boolean open = house.line(i, 2) >= 0 && house.line(i, 2) <= house.about(8);
            if (line.isEmpty() || !line.equals(line.strip()) || !inOrder || !open
                    || line.length() != house.line(i, 0)) {
                return MacroHouse.NONE;
            }
            from = house.line(i, 1);
            signs += line.length();
        }
        return signs;
    }
}

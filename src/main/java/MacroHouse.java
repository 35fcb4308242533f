/**
 * Makes a text with macros, conditions, constants and repetitions plain.
 *
 * <p>All rows are made once, with the object, and used again by every call.
 */
public final class MacroHouse {
    public static final int NONE = -1;

    private static final int MOST_SIGNS = 3000;
    private static final int MOST_IN_WORD = 12;
    private static final int MOST_DIGITS = 9;
    private static final int MOST_NESTED = 10;
    private static final int MOST_CONSTANTS = 64;
    private static final int MOST_CONDITIONS = 8;
    private static final int MOST_MACROS = 16;
    private static final int MOST_PARAMETERS = 6;
    private static final int MOST_REPEATS = 100;
    private static final int MOST_REPLACED = 300;
    private static final int MOST_OPEN = 12;
    private static final int MOST_LOOKED = 4000;
    private static final int MOST_OUT_LINES = 1000;
    private static final int MOST_OUT_SIGNS = 12000;
    /** Every step looks at a line or ends a range that one opened, so no run comes near it. */
    private static final int MOST_STEPS = 1000000;

    private static final int BAD_FORM = 1;
    private static final int NAME_TWICE = 2;
    private static final int NO_CONSTANT = 3;
    private static final int BAD_VALUE = 4;
    private static final int OUT_OF_PLACE = 5;
    private static final int TOO_MUCH = 6;
    private static final int STOPPED = 7;

    private final Signs text;
    private final Expander latest;

    public MacroHouse() {
        text = new Signs();
        latest = new Expander(text);
    }

    public int put(int signs) throws IllegalArgumentException, UnsupportedOperationException {
        int more = 0;
        for (int shift = 0; shift < 32; shift += 8) {
            int sign = (signs >>> shift) & 255;
            if (sign != 0 && !Signs.mayStand(sign)) {
                throw new IllegalArgumentException("a byte is no sign of a text");
            }
            more += sign == 0 ? 0 : 1;
        }
        if (text.length + more > MOST_SIGNS) {
            throw new UnsupportedOperationException("a text has at most 3000 signs");
        }
        for (int shift = 0; shift < 32; shift += 8) {
            int sign = (signs >>> shift) & 255;
            if (sign != 0) {
                text.write(text.length, sign);
                text.length++;
            }
        }
        return text.length;
    }

    public void end(int n) throws IllegalArgumentException {
        if (n < 0 || n > text.length) {
            throw new IllegalArgumentException("n is 0 up to the text's signs");
        }
        text.length = n;
    }

    public int expand() {
        latest.run();
        return latest.fault == 0 ? latest.output.count : NONE;
    }

    public int about(int what) throws IllegalArgumentException {
        switch (what) {
            case 0:
                return latest.fault;
            case 1:
                return latest.faultLine;
            case 2:
                return latest.looked;
            case 3:
                return latest.calls;
            case 4:
                return latest.macros.names.count;
            case 5:
                return latest.constants.names.count;
            case 6:
                return latest.output.count;
            case 7:
                return latest.output.length;
            case 8:
                return latest.stack.deepest;
            default:
                throw new IllegalArgumentException("what is 0 to 8");
        }
    }

    public int line(int i, int what) throws IndexOutOfBoundsException, IllegalArgumentException {
        if (i < 0 || i >= latest.output.count) {
            throw new IndexOutOfBoundsException("no such line went out");
        }
        if (what < 0) {
            throw new IllegalArgumentException("what is 0 or more");
        }
        return latest.output.tell(i, what);
    }

    public int constant(int i, int what)
            throws IndexOutOfBoundsException, IllegalArgumentException {
        if (i < 0 || i >= latest.constants.names.count) {
            throw new IndexOutOfBoundsException("there is no such constant");
        }
        if (what < 0) {
            throw new IllegalArgumentException("what is 0 or more");
        }
        return what == 0 ? latest.constants.numberOf(i) : latest.constants.names.sign(i, what - 1);
    }

    public int macro(int i, int what) throws IndexOutOfBoundsException, IllegalArgumentException {
        if (i < 0 || i >= latest.macros.names.count) {
            throw new IndexOutOfBoundsException("there is no such macro");
        }
        if (what < 0) {
            throw new IllegalArgumentException("what is 0 or more");
        }
        return latest.macros.tell(i, what);
    }

    /**
     * The text, and behind it a room for one replaced line of each depth, in one row: so an
     * argument, a default and a line are all told by where they begin and end in it.
     */
    private static final class Signs {
        private final byte[] row = new byte[MOST_SIGNS + MOST_OPEN * MOST_REPLACED];
        private final int[] starts = new int[MOST_SIGNS + 1];
        private final int[] stops = new int[MOST_SIGNS + 1];
        int length;
        int lines;

        static boolean mayStand(int sign) {
            return sign == '\n' || sign >= ' ' && sign <= '~';
        }

        static boolean isDigit(int sign) {
            return sign >= '0' && sign <= '9';
        }

        static boolean beginsWord(int sign) {
            return sign >= 'a' && sign <= 'z' || sign == '_';
        }

        int at(int i) {
            return i >= 0 && i < row.length ? row[i] : NONE;
        }

        void write(int i, int sign) {
            if (i >= 0 && i < row.length) {
                row[i] = (byte) sign;
            }
        }

        /** Where the word that begins at from ends, however long; from itself if none does. */
        int wordEnd(int from, int to) {
            if (from >= to || !beginsWord(at(from))) {
                return from;
            }
            int k = from + 1;
            while (k < to && (beginsWord(at(k)) || isDigit(at(k)))) {
                k++;
            }
            return k;
        }

        int behindBlanks(int from, int to) {
            int k = from;
            while (k < to && k >= 0 && k < row.length && row[k] == ' ') {
                k++;
            }
            return k;
        }

        int aheadOfBlanks(int from, int to) {
            int k = to;
            while (k > from && k > 0 && k <= row.length && row[k - 1] == ' ') {
                k--;
            }
            return k;
        }

        /** Where sign stands first, or to. */
        int find(int sign, int from, int to) {
            int k = from;
            while (k < to && at(k) != sign) {
                k++;
            }
            return k;
        }

        /** The first comma outside of brackets, or to; NONE if brackets ahead don't match. */
        int argumentEnd(int from, int to) {
            int open = 0;
            for (int k = from; k < to; k++) {
                int sign = at(k);
                if (sign == ',' && open == 0) {
                    return k;
                }
                if (sign == '(') {
                    open++;
                }
                if (sign == ')') {
                    open--;
                }
                if (open < 0) {
                    return NONE;
                }
            }
            return open == 0 ? to : NONE;
        }

        boolean same(int from, int to, int otherFrom, int otherTo) {
            if (to - from != otherTo - otherFrom || from < 0 || otherFrom < 0
                    || to > row.length || otherTo > row.length) {
                return false;
            }
            for (int k = 0; k < to - from; k++) {
                if (row[from + k] != row[otherFrom + k]) {
                    return false;
                }
            }
            return true;
        }

        boolean spells(int from, int to, String word) {
            if (to - from != word.length()) {
                return false;
            }
            for (int k = 0; k < word.length(); k++) {
                if (at(from + k) != word.charAt(k)) {
                    return false;
                }
            }
            return true;
        }

        void partIntoLines() {
            lines = 0;
            int start = 0;
            for (int k = 0; k <= length; k++) {
                if (k == length || at(k) == '\n') {
                    keepRange(start, k);
                    start = k + 1;
                }
            }
        }

        private void keepRange(int from, int to) {
            if (lines >= starts.length || lines >= stops.length) {
                return;
            }
            int stop = find('#', from, to);
            int start = behindBlanks(from, stop);
            starts[lines] = start;
            stops[lines] = aheadOfBlanks(start, stop);
            lines++;
        }

        int startOf(int i) {
            return i >= 0 && i < starts.length ? starts[i] : 0;
        }

        int stopOf(int i) {
            return i >= 0 && i < stops.length ? stops[i] : 0;
        }
    }

    /** What the first word of a line makes it. */
    private enum Directive {
        PLAIN(""), STRANGE(""), SET("set"), FORGET("forget"), IF("if"), IFSAME("ifsame"),
        ELSEIF("elseif"), ELSE("else"), ENDIF("endif"), MACRO("macro"), ENDM("endm"),
        REPT("rept"), EACH("each"), ENDR("endr"), LEAVE("leave"), STOP("stop");

        private static final Directive[] ALL = values();

        private final String word;

        Directive(String word) {
            this.word = word;
        }

        static Directive of(Signs signs, int from, int to) {
            if (from >= to || signs.at(from) != '.') {
                return PLAIN;
            }
            int stop = signs.wordEnd(from + 1, to);
            if (stop > from + 1) {
                for (int k = 0; k < ALL.length; k++) {
                    if (signs.spells(from + 1, stop, ALL[k].word)) {
                        return ALL[k];
                    }
                }
            }
            return STRANGE;
        }

        int behind(int from) {
            return from + 1 + word.length();
        }
    }

    /** Reads a line from left to right; values too. */
    private static final class Reader {
        private final Signs signs;
        private final Constants constants;
        int at;
        int stop;
        int wordFrom;
        int wordTo;
        /** Whether a value was not as it must be. */
        boolean wrong;
        /** The first fault of a value that is as it must be, 0 without one. */
        int met;

        Reader(Signs signs, Constants constants) {
            this.signs = signs;
            this.constants = constants;
        }

        void begin(int from, int to) {
            at = from;
            stop = to;
            wrong = false;
            met = 0;
        }

        /** The sign behind blanks, NONE at the end. */
        int next() {
            at = signs.behindBlanks(at, stop);
            return at < stop ? signs.at(at) : NONE;
        }

        boolean isDone() {
            return next() == NONE;
        }

        boolean take(int sign) {
            at = signs.behindBlanks(at, stop);
            if (at >= stop || signs.at(at) != sign) {
                return false;
            }
            at++;
            return true;
        }

        boolean takeWord() {
            at = signs.behindBlanks(at, stop);
            wordFrom = at;
            wordTo = signs.wordEnd(at, stop);
            at = wordTo;
            return wordTo > wordFrom && wordTo - wordFrom <= MOST_IN_WORD;
        }

        /** open: how many ( and - stand open around the value. */
        int readValue(int open) {
            int left = sum(open);
            if (takePair('=', '=')) {
                return left == sum(open) ? 1 : 0;
            }
            if (takePair('!', '=')) {
                return left != sum(open) ? 1 : 0;
            }
            if (takePair('<', '=')) {
                return left <= sum(open) ? 1 : 0;
            }
            if (take('<')) {
                return left < sum(open) ? 1 : 0;
            }
            return left;
        }

        private boolean takePair(int first, int second) {
            if (next() != first || at + 1 >= stop || signs.at(at + 1) != second) {
                return false;
            }
            at += 2;
            return true;
        }

        private int sum(int open) {
            int total = product(open);
            for (int k = 0; k < MOST_SIGNS && !wrong; k++) {
                if (take('+')) {
                    total += product(open);
                } else if (take('-')) {
                    total -= product(open);
                } else {
                    return total;
                }
            }
            return total;
        }

        private int product(int open) {
            int total = factor(open);
            for (int k = 0; k < MOST_SIGNS && !wrong; k++) {
                if (take('*')) {
                    total *= factor(open);
                } else if (take('/')) {
                    int by = divisor(factor(open));
                    total = by == 0 ? 0 : total / by;
                } else if (take('%')) {
                    int by = divisor(factor(open));
                    total = by == 0 ? 0 : total % by;
                } else {
                    return total;
                }
            }
            return total;
        }

        private int divisor(int by) {
            if (by == 0) {
                meet(BAD_VALUE);
            }
            return by;
        }

        private int factor(int open) {
            int sign = next();
            if (sign == '-' || sign == '(') {
                if (open >= MOST_NESTED) {
                    return refuse();
                }
                at++;
                return sign == '-' ? -factor(open + 1) : bracketed(open + 1);
            }
            if (Signs.isDigit(sign)) {
                return number();
            }
            boolean asks = take('?');
            if (!takeWord()) {
                return refuse();
            }
            int i = constants.names.find(wordFrom, wordTo);
            if (asks) {
                return i == NONE ? 0 : 1;
            }
            if (i == NONE) {
                meet(NO_CONSTANT);
            }
            return constants.numberOf(i);
        }

        private int bracketed(int open) {
            int value = readValue(open);
            return take(')') ? value : refuse();
        }

        private int number() {
            int value = 0;
            int digits = 0;
            while (at < stop && Signs.isDigit(signs.at(at))) {
                value = value * 10 + (signs.at(at) - '0');
                digits++;
                at++;
            }
            boolean runsOn = at < stop && Signs.beginsWord(signs.at(at));
            return runsOn || digits > MOST_DIGITS ? refuse() : value;
        }

        private void meet(int kind) {
            if (met == 0) {
                met = kind;
            }
        }

        private int refuse() {
            wrong = true;
            return 0;
        }
    }

    /** Names in the order in which they came; kept apart from the text, which may change. */
    private static final class Names {
        private final Signs signs;
        private final int most;
        private final byte[] row;
        private final int[] lengths;
        int count;

        Names(Signs signs, int most) {
            this.signs = signs;
            this.most = Math.max(0, most);
            this.row = new byte[this.most * MOST_IN_WORD];
            this.lengths = new int[this.most];
        }

        boolean isFull() {
            return count >= most;
        }

        int find(int from, int to) {
            for (int i = 0; i < count; i++) {
                if (is(i, from, to)) {
                    return i;
                }
            }
            return NONE;
        }

        private boolean is(int i, int from, int to) {
            int place = i * MOST_IN_WORD;
            int length = to - from;
            if (lengthOf(i) != length || place < 0 || place + length > row.length) {
                return false;
            }
            for (int k = 0; k < length; k++) {
                if (row[place + k] != signs.at(from + k)) {
                    return false;
                }
            }
            return true;
        }

        void add(int from, int to) {
            if (isFull() || count >= lengths.length) {
                return;
            }
            int length = Math.min(to - from, MOST_IN_WORD);
            lengths[count] = length;
            for (int k = 0; k < length; k++) {
                write(count, k, signs.at(from + k));
            }
            count++;
        }

        void remove(int i) {
            for (int k = i; k + 1 < count && k >= 0 && k + 1 < lengths.length; k++) {
                lengths[k] = lengths[k + 1];
                for (int j = 0; j < lengths[k]; j++) {
                    write(k, j, sign(k + 1, j));
                }
            }
            count = Math.max(0, count - 1);
        }

        private int lengthOf(int i) {
            return i >= 0 && i < count && i < lengths.length ? lengths[i] : 0;
        }

        int sign(int i, int k) {
            if (k < 0 || k >= lengthOf(i)) {
                return NONE;
            }
            int place = i * MOST_IN_WORD + k;
            return place >= 0 && place < row.length ? row[place] : NONE;
        }

        private void write(int i, int k, int sign) {
            int place = i * MOST_IN_WORD + k;
            if (place >= 0 && place < row.length) {
                row[place] = (byte) sign;
            }
        }
    }

    private static final class Constants {
        final Names names;
        private final int[] numbers = new int[MOST_CONSTANTS];

        Constants(Signs signs) {
            names = new Names(signs, MOST_CONSTANTS);
        }

        int numberOf(int i) {
            return i >= 0 && i < names.count && i < numbers.length ? numbers[i] : 0;
        }

        /** False if there are too many. */
        boolean set(int from, int to, int number) {
            int i = names.find(from, to);
            if (i == NONE) {
                if (names.isFull()) {
                    return false;
                }
                i = names.count;
                names.add(from, to);
            }
            if (i >= 0 && i < numbers.length) {
                numbers[i] = number;
            }
            return true;
        }

        /** False if it was none. */
        boolean forget(int from, int to) {
            int i = names.find(from, to);
            if (i == NONE) {
                return false;
            }
            names.remove(i);
            for (int k = i; k < names.count && k >= 0 && k + 1 < numbers.length; k++) {
                numbers[k] = numbers[k + 1];
            }
            return true;
        }
    }

    /** The macros; a head that is being read stands behind the last one, in a spare place. */
    private static final class Macros {
        private static final int PLACES = MOST_MACROS + 1;

        private final Signs signs;
        final Names names;
        private final int[] parameters = new int[PLACES];
        private final int[] bodies = new int[PLACES];
        private final int[] heads = new int[PLACES];
        private final int[] calls = new int[PLACES];
        private final int[] wordFrom = new int[PLACES * MOST_PARAMETERS];
        private final int[] wordTo = new int[PLACES * MOST_PARAMETERS];
        private final int[] defaultFrom = new int[PLACES * MOST_PARAMETERS];
        private final int[] defaultTo = new int[PLACES * MOST_PARAMETERS];
        private int nameFrom;
        private int nameTo;

        Macros(Signs signs) {
            this.signs = signs;
            this.names = new Names(signs, MOST_MACROS);
        }

        /** False if the head isn't as it must be. */
        boolean readHead(Reader reader) {
            int m = names.count;
            if (m < 0 || m >= PLACES || !reader.takeWord()) {
                return false;
            }
            nameFrom = reader.wordFrom;
            nameTo = reader.wordTo;
            parameters[m] = 0;
            if (reader.isDone()) {
                return true;
            }
            for (int p = 0; p < MOST_PARAMETERS; p++) {
                if (!readParameter(reader, m, m * MOST_PARAMETERS + p)) {
                    return false;
                }
                parameters[m] = p + 1;
                if (reader.isDone()) {
                    return true;
                }
                if (!reader.take(',')) {
                    return false;
                }
            }
            return false;
        }

        private boolean readParameter(Reader reader, int m, int place) {
            if (place < 0 || place >= wordFrom.length || !reader.takeWord()) {
                return false;
            }
            if (findParameter(m, reader.wordFrom, reader.wordTo) != NONE) {
                return false;
            }
            wordFrom[place] = reader.wordFrom;
            wordTo[place] = reader.wordTo;
            defaultFrom[place] = NONE;
            defaultTo[place] = NONE;
            if (reader.take('=')) {
                int stop = signs.find(',', reader.at, reader.stop);
                defaultFrom[place] = signs.behindBlanks(reader.at, stop);
                defaultTo[place] = signs.aheadOfBlanks(defaultFrom[place], stop);
                reader.at = stop;
            }
            return true;
        }

        boolean isHeadTold() {
            return names.find(nameFrom, nameTo) != NONE;
        }

        /** Makes the head that was read a macro; false if there are too many. */
        boolean add(int head, int lines) {
            int m = names.count;
            if (names.isFull() || m < 0 || m >= PLACES) {
                return false;
            }
            names.add(nameFrom, nameTo);
            heads[m] = head;
            bodies[m] = lines;
            calls[m] = 0;
            return true;
        }

        void countCall(int m) {
            if (m >= 0 && m < PLACES) {
                calls[m]++;
            }
        }

        int parametersOf(int m) {
            return m >= 0 && m < PLACES ? parameters[m] : 0;
        }

        int firstLineOf(int m) {
            return m >= 0 && m < PLACES ? heads[m] + 1 : 0;
        }

        int linesOf(int m) {
            return m >= 0 && m < PLACES ? bodies[m] : 0;
        }

        int findParameter(int m, int from, int to) {
            for (int p = 0; p < parametersOf(m); p++) {
                int place = m * MOST_PARAMETERS + p;
                if (place >= 0 && place < wordFrom.length
                        && signs.same(wordFrom[place], wordTo[place], from, to)) {
                    return p;
                }
            }
            return NONE;
        }

        /** NONE if parameter p has no default. */
        int defaultStart(int m, int p) {
            int place = m * MOST_PARAMETERS + p;
            return place >= 0 && place < defaultFrom.length ? defaultFrom[place] : NONE;
        }

        int defaultStop(int m, int p) {
            int place = m * MOST_PARAMETERS + p;
            return place >= 0 && place < defaultTo.length ? defaultTo[place] : NONE;
        }

        int tell(int m, int what) {
            if (m < 0 || m >= PLACES) {
                return NONE;
            }
            switch (what) {
                case 0:
                    return parameters[m];
                case 1:
                    return bodies[m];
                case 2:
                    return heads[m];
                case 3:
                    return calls[m];
                default:
                    return names.sign(m, what - 4);
            }
        }
    }

    /** The text (PLAIN), or an open MACRO, REPT or EACH: a range of lines that come. */
    private static final class Frame {
        Directive kind = Directive.PLAIN;
        int from;
        int to;
        int next;
        int times;
        int turn;
        /** How many conditions were open when it was opened. */
        int conditions;
        int macro;
        /** How many macros were called ahead of this one. */
        int number;
        int wordFrom;
        int wordTo;
        /** What is left of an EACH's texts. */
        int restFrom;
        int restTo;
        /** A MACRO's arguments; the first is an EACH's text. */
        private final int[] argumentFrom = new int[MOST_PARAMETERS];
        private final int[] argumentTo = new int[MOST_PARAMETERS];

        void begin(Directive kind, int from, int to, int times, int conditions) {
            this.kind = kind;
            this.from = from;
            this.to = to;
            this.next = from;
            this.times = times;
            this.turn = 0;
            this.conditions = conditions;
        }

        void setArgument(int p, int from, int to) {
            if (p >= 0 && p < argumentFrom.length && p < argumentTo.length) {
                argumentFrom[p] = from;
                argumentTo[p] = to;
            }
        }

        int argumentStart(int p) {
            return p >= 0 && p < argumentFrom.length ? argumentFrom[p] : 0;
        }

        int argumentStop(int p) {
            return p >= 0 && p < argumentTo.length ? argumentTo[p] : 0;
        }

        boolean repeats() {
            return kind == Directive.REPT || kind == Directive.EACH;
        }
    }

    /** What is open in one another, and what its lines are replaced by. */
    private static final class Stack {
        private final Signs signs;
        private final Macros macros;
        private final Frame whole = new Frame();
        /** Behind the deepest is a spare one: its arguments are read ahead of it being refused. */
        private final Frame[] frames = new Frame[MOST_OPEN + 1];
        int depth;
        int deepest;
        /** The line of the text that opened the outermost. */
        int origin;
        int replacedFrom;
        int replacedTo;
        private boolean wrong;
        /** The depth of the macro around the line that is replaced, 0 without one. */
        private int around;

        Stack(Signs signs, Macros macros) {
            this.signs = signs;
            this.macros = macros;
            for (int k = 0; k < frames.length; k++) {
                frames[k] = new Frame();
            }
        }

        void startAnew() {
            depth = 0;
            deepest = 0;
            whole.begin(Directive.PLAIN, 0, signs.lines, 1, 0);
        }

        Frame frameAt(int d) {
            return d >= 1 && d <= frames.length ? frames[d - 1] : whole;
        }

        Frame top() {
            return frameAt(depth);
        }

        /** Where the next one that is opened is made ready. */
        Frame spare() {
            return frameAt(depth + 1);
        }

        /** Opens the spare one; false if too many are open. */
        boolean open(int line) {
            if (depth >= MOST_OPEN) {
                return false;
            }
            if (depth == 0) {
                origin = line;
            }
            depth++;
            deepest = Math.max(deepest, depth);
            return true;
        }

        /** Goes to the next turn of the innermost, or closes it. */
        void turn() {
            Frame frame = top();
            frame.turn++;
            // Turns of no lines give nothing, so they need not be gone through.
            if (frame.turn >= frame.times || frame.from >= frame.to) {
                depth = Math.max(0, depth - 1);
                return;
            }
            frame.next = frame.from;
            if (frame.kind == Directive.EACH) {
                nextText(frame);
            }
        }

        private void nextText(Frame frame) {
            int stop = signs.argumentEnd(frame.restFrom, frame.restTo);
            if (stop == NONE) {
                stop = frame.restTo;
            }
            setTrimmed(frame, 0, frame.restFrom, stop);
            frame.restFrom = Math.min(stop + 1, frame.restTo);
        }

        private void setTrimmed(Frame frame, int p, int from, int to) {
            int start = signs.behindBlanks(from, to);
            frame.setArgument(p, start, signs.aheadOfBlanks(start, to));
        }

        /** Makes a call's arguments ready in the spare frame; false if they can't be. */
        boolean readArguments(int m, int from, int to) {
            Frame frame = spare();
            int parameters = macros.parametersOf(m);
            if (parameters == 0) {
                return signs.behindBlanks(from, to) >= to;
            }
            int at = from;
            for (int p = 0; p < parameters; p++) {
                int start = Math.min(at, to);
                int stop = signs.argumentEnd(start, to);
                if (stop == NONE) {
                    return false;
                }
                setTrimmed(frame, p, start, stop);
                at = at > to ? at : stop + 1;
                if (frame.argumentStart(p) >= frame.argumentStop(p)) {
                    if (macros.defaultStart(m, p) == NONE) {
                        return false;
                    }
                    frame.setArgument(p, macros.defaultStart(m, p), macros.defaultStop(m, p));
                }
            }
            return at > to;
        }

        /** Makes an EACH's texts ready in the spare frame: how many, NONE if they can't be. */
        int readTexts(int from, int to) {
            int texts = 0;
            int at = from;
            for (int k = from; k <= to && at <= to; k++) {
                int stop = signs.argumentEnd(at, to);
                if (stop == NONE) {
                    return NONE;
                }
                at = stop + 1;
                texts++;
            }
            Frame frame = spare();
            frame.restFrom = from;
            frame.restTo = to;
            nextText(frame);
            return texts;
        }

        /** The depth of the innermost macro, 0 without one. */
        int macroDepth() {
            int d = depth;
            while (d > 0 && frameAt(d).kind != Directive.MACRO) {
                d--;
            }
            return d;
        }

        /** Replaces what stands there, into replacedFrom and replacedTo: its fault, or 0. */
        int replace(int from, int to) {
            replacedFrom = MOST_SIGNS + Math.max(0, depth - 1) * MOST_REPLACED;
            replacedTo = replacedFrom;
            wrong = false;
            around = macroDepth();
            int k = from;
            while (k < to) {
                if (signs.at(k) == '\\') {
                    k = Math.max(k + 1, replaceMark(k + 1, to));
                } else {
                    append(k, k + 1);
                    k++;
                }
            }
            if (wrong) {
                return BAD_FORM;
            }
            return replacedTo - replacedFrom > MOST_REPLACED ? TOO_MUCH : 0;
        }

        /** Replaces the mark behind a \: where it ends. */
        private int replaceMark(int from, int to) {
            int sign = from < to ? signs.at(from) : NONE;
            if (sign == '@') {
                appendNumber(around == 0 ? NONE : frameAt(around).number);
                return from + 1;
            }
            if (sign == '?') {
                appendNumber(top().repeats() ? top().turn : NONE);
                return from + 1;
            }
            int stop = signs.wordEnd(from, to);
            appendNamed(from, stop);
            return stop;
        }

        private void appendNamed(int from, int to) {
            for (int d = depth; d > around; d--) {
                Frame frame = frameAt(d);
                if (frame.kind == Directive.EACH
                        && signs.same(frame.wordFrom, frame.wordTo, from, to)) {
                    append(frame.argumentStart(0), frame.argumentStop(0));
                    return;
                }
            }
            Frame frame = frameAt(around);
            int p = around == 0 ? NONE : macros.findParameter(frame.macro, from, to);
            if (p == NONE) {
                wrong = true;
                return;
            }
            append(frame.argumentStart(p), frame.argumentStop(p));
        }

        /** NONE, which no mark may stand for, is wrong. */
        private void appendNumber(int number) {
            if (number < 0) {
                wrong = true;
                return;
            }
            boolean begun = false;
            for (int unit = 1000000000; unit > 0; unit /= 10) {
                int digit = number / unit % 10;
                begun = begun || digit > 0 || unit == 1;
                if (begun) {
                    appendSign('0' + digit);
                }
            }
        }

        private void append(int from, int to) {
            if (replacedTo - replacedFrom + (to - from) > MOST_REPLACED) {
                // What is too long is only measured: faults of its form go ahead.
                replacedTo += to - from;
                return;
            }
            for (int k = from; k < to; k++) {
                signs.write(replacedTo, signs.at(k));
                replacedTo++;
            }
        }

        private void appendSign(int sign) {
            if (replacedTo - replacedFrom < MOST_REPLACED) {
                signs.write(replacedTo, sign);
            }
            replacedTo++;
        }
    }

    /** The .ifs that are open, the outermost first. */
    private static final class Conditions {
        private final boolean[] reached = new boolean[MOST_CONDITIONS];
        private final boolean[] now = new boolean[MOST_CONDITIONS];
        private final boolean[] came = new boolean[MOST_CONDITIONS];
        private final boolean[] last = new boolean[MOST_CONDITIONS];
        private final int[] lines = new int[MOST_CONDITIONS];
        int count;

        private boolean isAny() {
            return count > 0 && count <= MOST_CONDITIONS;
        }

        /** Whether lines come. */
        boolean live() {
            return !isAny() || now[count - 1];
        }

        /** False if too many are open. */
        boolean open(boolean comes, boolean holds, int line) {
            if (count < 0 || count >= MOST_CONDITIONS) {
                return false;
            }
            reached[count] = comes;
            now[count] = comes && holds;
            came[count] = comes && holds;
            last[count] = false;
            lines[count] = line;
            count++;
            return true;
        }

        int lineOfInnermost() {
            return isAny() ? lines[count - 1] : NONE;
        }

        boolean isBehindElse() {
            return isAny() && last[count - 1];
        }

        /** Whether its line came and none of its parts did, so that the next one may. */
        boolean waits() {
            return isAny() && reached[count - 1] && !came[count - 1];
        }

        void nextPart(boolean holds) {
            if (isAny()) {
                now[count - 1] = holds && waits();
                came[count - 1] = came[count - 1] || now[count - 1];
            }
        }

        void lastPart() {
            nextPart(true);
            if (isAny()) {
                last[count - 1] = true;
            }
        }
    }

    /** The lines that went out. */
    private static final class Output {
        private final byte[] row = new byte[MOST_OUT_SIGNS];
        private final int[] starts = new int[MOST_OUT_LINES];
        private final int[] stops = new int[MOST_OUT_LINES];
        private final int[] lines = new int[MOST_OUT_LINES];
        private final int[] depths = new int[MOST_OUT_LINES];
        int count;
        int length;

        void clear() {
            count = 0;
            length = 0;
        }

        /** False if it is too much. */
        boolean add(Signs signs, int from, int to, int line, int depth) {
            if (count < 0 || count >= MOST_OUT_LINES || length + (to - from) > MOST_OUT_SIGNS) {
                return false;
            }
            starts[count] = length;
            for (int k = from; k < to && length >= 0 && length < row.length; k++) {
                row[length] = (byte) signs.at(k);
                length++;
            }
            stops[count] = length;
            lines[count] = line;
            depths[count] = depth;
            count++;
            return true;
        }

        int tell(int i, int what) {
            if (i < 0 || i >= MOST_OUT_LINES) {
                return NONE;
            }
            switch (what) {
                case 0:
                    return stops[i] - starts[i];
                case 1:
                    return lines[i];
                case 2:
                    return depths[i];
                default:
                    return sign(starts[i], stops[i], what - 3);
            }
        }

        private int sign(int start, int stop, int k) {
            if (k < 0 || k >= stop - start || start < 0 || start + k >= row.length) {
                return NONE;
            }
            return row[start + k];
        }
    }

    /** Goes over the text. */
    private static final class Expander {
        private final Signs signs;
        private final Reader reader;
        private final Conditions conditions = new Conditions();
        final Constants constants;
        final Macros macros;
        final Stack stack;
        final Output output = new Output();
        int fault;
        int faultLine = NONE;
        int looked;
        int calls;
        /** The line of the text that is looked at, and where it stands, replaced or not. */
        private int current;
        private int from;
        private int to;
        private Directive directive = Directive.PLAIN;

        Expander(Signs signs) {
            this.signs = signs;
            this.constants = new Constants(signs);
            this.reader = new Reader(signs, constants);
            this.macros = new Macros(signs);
            this.stack = new Stack(signs, macros);
        }

        void run() {
            startAnew();
            for (int k = 0; k < MOST_STEPS && fault == 0; k++) {
                Frame top = stack.top();
                if (top.next >= top.to) {
                    if (!endRange(top)) {
                        return;
                    }
                } else if (look(top) && takeLine()) {
                    if (conditions.live()) {
                        come();
                    } else {
                        pass();
                    }
                }
            }
        }

        private void startAnew() {
            signs.partIntoLines();
            stack.startAnew();
            output.clear();
            constants.names.count = 0;
            macros.names.count = 0;
            conditions.count = 0;
            fault = 0;
            faultLine = NONE;
            looked = 0;
            calls = 0;
        }

        /** The line that the present one is told as. */
        private int toldLine() {
            return stack.depth == 0 ? current : stack.origin;
        }

        /** Always false, so that a fault and the refusal are one statement. */
        private boolean fail(int kind) {
            fault = kind;
            faultLine = toldLine();
            return false;
        }

        private boolean look(Frame frame) {
            current = frame.next;
            if (looked >= MOST_LOOKED) {
                return fail(TOO_MUCH);
            }
            looked++;
            frame.next++;
            return true;
        }

        /** False if the text is over, or a condition of the range is open. */
        private boolean endRange(Frame frame) {
            if (conditions.count > frame.conditions) {
                fault = OUT_OF_PLACE;
                faultLine = conditions.lineOfInnermost();
                return false;
            }
            if (stack.depth == 0) {
                return false;
            }
            stack.turn();
            return true;
        }

        /** Makes the present line ready, replaced if it counts; false if that can't be. */
        private boolean takeLine() {
            boolean comes = conditions.live();
            from = signs.startOf(current);
            to = signs.stopOf(current);
            directive = Directive.of(signs, from, to);
            boolean counts = comes || directive == Directive.ELSEIF && conditions.waits();
            if (stack.depth == 0 || !counts) {
                return true;
            }
            int kind = stack.replace(from, to);
            if (kind != 0) {
                return fail(kind);
            }
            from = signs.behindBlanks(stack.replacedFrom, stack.replacedTo);
            to = signs.aheadOfBlanks(from, stack.replacedTo);
            // Among lines that don't come the word in the text has made it an .elseif.
            if (comes) {
                directive = Directive.of(signs, from, to);
            }
            return true;
        }

        /** A line that comes. */
        private void come() {
            reader.begin(directive.behind(from), to);
            switch (directive) {
                case PLAIN:
                    callOrGiveOut();
                    break;
                case SET:
                    setConstant();
                    break;
                case FORGET:
                    forgetConstant();
                    break;
                case IF:
                    openIf();
                    break;
                case IFSAME:
                    openIfSame();
                    break;
                case ELSEIF:
                case ELSE:
                case ENDIF:
                    changeCondition();
                    break;
                case MACRO:
                    defineMacro(macros.readHead(reader));
                    break;
                case REPT:
                    openRept();
                    break;
                case EACH:
                    openEach();
                    break;
                case LEAVE:
                    leaveMacro();
                    break;
                case STOP:
                    fail(STOPPED);
                    break;
                case ENDM:
                case ENDR:
                    fail(OUT_OF_PLACE);
                    break;
                default:
                    fail(BAD_FORM);
                    break;
            }
        }

        /** A line that doesn't come. */
        private void pass() {
            reader.begin(directive.behind(from), to);
            switch (directive) {
                case IF:
                case IFSAME:
                    openCondition(false, false);
                    break;
                case ELSEIF:
                case ELSE:
                case ENDIF:
                    changeCondition();
                    break;
                default:
                    break;
            }
        }

        private void callOrGiveOut() {
            if (from >= to) {
                return;
            }
            int stop = signs.wordEnd(from, to);
            int m = macros.names.find(from, stop);
            if (m == NONE) {
                if (!output.add(signs, from, to, toldLine(), stack.depth)) {
                    fail(TOO_MUCH);
                }
            } else if (!stack.readArguments(m, stop, to)) {
                fail(BAD_FORM);
            } else {
                openMacro(m);
            }
        }

        private void openMacro(int m) {
            Frame frame = stack.spare();
            int first = macros.firstLineOf(m);
            frame.begin(Directive.MACRO, first, first + macros.linesOf(m), 1, conditions.count);
            frame.macro = m;
            frame.number = calls;
            if (!stack.open(current)) {
                fail(TOO_MUCH);
                return;
            }
            calls++;
            macros.countCall(m);
        }

        /** Whether the value that was read ends the line and has no fault. */
        private boolean isValueGood() {
            if (reader.wrong || !reader.isDone()) {
                return fail(BAD_FORM);
            }
            return reader.met == 0 || fail(reader.met);
        }

        private void setConstant() {
            if (!reader.takeWord() || !reader.take(',')) {
                fail(BAD_FORM);
                return;
            }
            int wordFrom = reader.wordFrom;
            int wordTo = reader.wordTo;
            int value = reader.readValue(0);
            if (isValueGood() && !constants.set(wordFrom, wordTo, value)) {
                fail(TOO_MUCH);
            }
        }

        private void forgetConstant() {
            if (!reader.takeWord() || !reader.isDone()) {
                fail(BAD_FORM);
            } else if (!constants.forget(reader.wordFrom, reader.wordTo)) {
                fail(NO_CONSTANT);
            }
        }

        private void openIf() {
            int value = reader.readValue(0);
            if (isValueGood()) {
                openCondition(true, value != 0);
            }
        }

        private void openIfSame() {
            int comma = signs.find(',', reader.at, to);
            if (comma >= to) {
                fail(BAD_FORM);
                return;
            }
            int first = signs.behindBlanks(reader.at, comma);
            int firstTo = signs.aheadOfBlanks(first, comma);
            int second = signs.behindBlanks(comma + 1, to);
            openCondition(true, signs.same(first, firstTo, second, to));
        }

        private void openCondition(boolean comes, boolean holds) {
            if (!conditions.open(comes, holds, toldLine())) {
                fail(TOO_MUCH);
            }
        }

        /** .elseif, .else and .endif, in lines that come and in those that don't. */
        private void changeCondition() {
            if (conditions.count <= stack.top().conditions) {
                fail(OUT_OF_PLACE);
            } else if (directive == Directive.ENDIF) {
                conditions.count--;
            } else if (conditions.isBehindElse()) {
                fail(OUT_OF_PLACE);
            } else if (directive == Directive.ELSE) {
                conditions.lastPart();
            } else if (!conditions.waits()) {
                conditions.nextPart(false);
            } else {
                int value = reader.readValue(0);
                if (isValueGood()) {
                    conditions.nextPart(value != 0);
                }
            }
        }

        private void defineMacro(boolean isHeadGood) {
            int head = current;
            if (!isHeadGood) {
                fail(BAD_FORM);
            } else if (macros.isHeadTold()) {
                fail(NAME_TWICE);
            } else if (stack.depth > 0) {
                fail(OUT_OF_PLACE);
            } else if (keepUpToEndm()) {
                int lines = current - head - 1;
                current = head;
                if (!macros.add(head, lines)) {
                    fail(TOO_MUCH);
                }
            }
        }

        /** Goes on to the next .endm; false if there is a fault ahead of it. */
        private boolean keepUpToEndm() {
            int head = current;
            Frame whole = stack.top();
            for (int k = whole.next; k < whole.to; k++) {
                if (!look(whole)) {
                    return false;
                }
                Directive kept = Directive.of(signs, signs.startOf(k), signs.stopOf(k));
                if (kept == Directive.MACRO) {
                    return fail(OUT_OF_PLACE);
                }
                if (kept == Directive.ENDM) {
                    return true;
                }
            }
            current = head;
            return fail(OUT_OF_PLACE);
        }

        /** Goes on to the .endr that belongs to the present line; false if there is a fault. */
        private boolean keepUpToEndr() {
            int head = current;
            Frame frame = stack.top();
            int open = 1;
            for (int k = frame.next; k < frame.to; k++) {
                if (!look(frame)) {
                    return false;
                }
                Directive kept = Directive.of(signs, signs.startOf(k), signs.stopOf(k));
                if (kept == Directive.REPT || kept == Directive.EACH) {
                    open++;
                } else if (kept == Directive.ENDR) {
                    open--;
                }
                if (open == 0) {
                    return true;
                }
            }
            current = head;
            return fail(OUT_OF_PLACE);
        }

        private void openRept() {
            int head = current;
            int times = reader.readValue(0);
            if (!isValueGood()) {
                return;
            }
            if (times < 0 || times > MOST_REPEATS) {
                fail(BAD_VALUE);
            } else if (keepUpToEndr()) {
                openRepeated(Directive.REPT, head, times);
            }
        }

        private void openEach() {
            int head = current;
            if (!reader.takeWord() || !reader.take(',')) {
                fail(BAD_FORM);
                return;
            }
            int texts = stack.readTexts(reader.at, to);
            if (texts == NONE) {
                fail(BAD_FORM);
                return;
            }
            Frame frame = stack.spare();
            frame.wordFrom = reader.wordFrom;
            frame.wordTo = reader.wordTo;
            if (keepUpToEndr()) {
                openRepeated(Directive.EACH, head, texts);
            }
        }

        /** The lines between head and the present one, which is their .endr. */
        private void openRepeated(Directive kind, int head, int times) {
            int last = current;
            current = head;
            if (times == 0) {
                return;
            }
            stack.spare().begin(kind, head + 1, last, times, conditions.count);
            if (!stack.open(head)) {
                fail(TOO_MUCH);
            }
        }

        private void leaveMacro() {
            if (!reader.isDone()) {
                fail(BAD_FORM);
                return;
            }
            int d = stack.macroDepth();
            if (d == 0) {
                fail(OUT_OF_PLACE);
                return;
            }
            conditions.count = stack.frameAt(d).conditions;
            stack.depth = d - 1;
        }
    }
}

/** A processor of macros whose expansions are read again; DOC.md numbers its promises. */
public final class RescanDesk {
    public static final int NONE = -1;

    private static final int FINE = 0;
    private static final int FUEL = 1;
    private static final int SPACE = 2;
    private static final int QUOTE = 3;
    private static final int BRACKET = 4;
    private static final int ZERO = 5;
    private static final int EXPRESSION = 6;

    private static final int TEXT_ROOM = 300;
    private static final int FRONT_ROOM = 600;
    private static final int GATHERED_ROOM = 400;
    private static final int ROW_ROOM = 300;
    private static final int BODY_ROOM = 100;
    private static final int NAME_ROOM = 12;
    private static final int MOST_CALLS = 12;
    private static final int MOST_ARGUMENTS = 9;
    private static final int MOST_DEFINITIONS = 60;
    private static final int MOST_NESTED = 6;
    private static final int MOST_FUEL = 5000;
    private static final int ROWS = 4;
    private static final int MOST_DIGITS = 19;

    private static final char QUOTE_OPENS = 96;
    private static final char QUOTE_CLOSES = 39;
    private static final char LINE_END = 10;

    private final Text text;
    private final Front front;
    private final Rows rows;
    private final Table table;
    private final Calls calls;
    private final Expander expander;
    /** The call that the present step has read to its end and that is to be expanded, or null. */
    private Call ready;
    private int steps;

    public RescanDesk() {
        text = new Text(TEXT_ROOM);
        front = new Front();
        rows = new Rows();
        table = new Table();
        calls = new Calls();
        expander = new Expander(front, rows, table);
        ready = null;
        steps = 0;
    }

    public boolean type(char c) {
        return text.add(c);
    }

    public int clear() {
        int had = text.length;
        text.empty();
        return had;
    }

    public int run(int fuel) throws IllegalArgumentException {
        if (fuel < 0 || fuel > MOST_FUEL) {
            throw new IllegalArgumentException();
        }
        begin();
        int error = FINE;
        while (error == FINE && front.length() > 0 && steps < fuel) {
            steps++;
            ready = null;
            error = read();
            if (error == FINE && ready != null) {
                error = expander.expand(ready);
            }
        }
        if (error != FINE) {
            return error;
        }
        return front.length() > 0 ? FUEL : finish();
    }

    public char output(int r, int k) throws IllegalArgumentException, IndexOutOfBoundsException {
        if (r < 0 || r >= ROWS) {
            throw new IllegalArgumentException();
        }
        Text row = rows.row[r];
        if (k < 0 || k >= row.length) {
            throw new IndexOutOfBoundsException();
        }
        return row.chars[k];
    }

    public int count(int what) {
        if (what >= 0 && what < ROWS) {
            return rows.row[what].length;
        }
        switch (what) {
            case 4:
                return table.size;
            case 5:
                return table.macros();
            case 6:
                return steps;
            case 7:
                return calls.most;
            case 8:
                return front.length();
            case 9:
                return rows.present;
            default:
                return NONE;
        }
    }

    private void begin() {
        front.load(text);
        text.empty();
        rows.begin();
        calls.begin();
        steps = 0;
    }

    /** The end of the front is no step: it needs no fuel and is not counted. */
    private int finish() {
        if (calls.open > 0) {
            return BRACKET;
        }
        return rows.join() ? FINE : SPACE;
    }

    private int read() {
        char c = front.chars[front.start];
        if (c == QUOTE_OPENS) {
            return readQuote();
        }
        if (isLetter(c)) {
            return readName();
        }
        front.start++;
        Call call = calls.latest();
        return call == null ? write(front.start - 1, front.start) : readInCall(call, c);
    }

    private int readQuote() {
        int close = front.closingQuote();
        if (close == NONE) {
            return QUOTE;
        }
        int from = front.start + 1;
        front.start = close + 1;
        calls.markBegun();
        return write(from, close);
    }

    private int readName() {
        int from = front.start;
        int to = nameEnd(front.chars, from, FRONT_ROOM);
        int place = table.topmost(front.chars, from, to);
        calls.markBegun();
        front.start = to;
        if (place == NONE) {
            return write(from, to);
        }
        Definition definition = table.definitions[place];
        if (to >= FRONT_ROOM || front.chars[to] != '(') {
            ready = calls.bare(definition);
            return FINE;
        }
        front.start = to + 1;
        return calls.start(definition) ? FINE : SPACE;
    }

    private int readInCall(Call call, char c) {
        if (c == ')' && call.depth == 0) {
            ready = calls.close();
            return FINE;
        }
        if (c == ',' && call.depth == 0) {
            return calls.nextArgument(call) ? FINE : SPACE;
        }
        if (isBlank(c) && !call.begun) {
            return FINE;
        }
        call.begun = true;
        if (c == '(') {
            call.depth++;
        } else if (c == ')') {
            call.depth--;
        }
        return write(front.start - 1, front.start);
    }

    /** Writes characters that were just taken from the front and still lie in its array. */
    private int write(int from, int to) {
        Text target = calls.open > 0 ? calls.gathered : rows.presentRow();
        return target == null || target.addPart(front.chars, from, to) ? FINE : SPACE;
    }

    private static boolean isLetter(char c) {
        return c >= 'a' && c <= 'z' || c >= 'A' && c <= 'Z' || c == '_';
    }

    private static boolean isDigit(char c) {
        return c >= '0' && c <= '9';
    }

    private static boolean isBlank(char c) {
        return c == ' ' || c == LINE_END;
    }

    /** Where the name that begins at from ends; from itself if none begins there. */
    private static int nameEnd(char[] chars, int from, int to) {
        if (from >= to || !isLetter(chars[from])) {
            return from;
        }
        int end = from + 1;
        while (end < to && (isLetter(chars[end]) || isDigit(chars[end]))) {
            end++;
        }
        return end;
    }

    private static boolean isName(char[] chars, int from, int to) {
        return from < to && nameEnd(chars, from, to) == to;
    }

    private static long valueOf(char[] chars, int from, int to) {
        boolean below = from < to && chars[from] == '-';
        int first = below ? from + 1 : from;
        long value = 0;
        for (int i = first; i < to; i++) {
            if (!isDigit(chars[i])) {
                return 0;
            }
            value = value * 10 + (chars[i] - '0');
        }
        return below ? -value : value;
    }

    private enum BuiltIn {
        DEFINE("define"),
        PUSHDEF("pushdef"),
        POPDEF("popdef"),
        UNDEFINE("undefine"),
        IFDEF("ifdef"),
        IFELSE("ifelse"),
        INCR("incr"),
        EVAL("eval"),
        LEN("len"),
        SUBSTR("substr"),
        INDEX("index"),
        SHIFT("shift"),
        DIVERT("divert"),
        UNDIVERT("undivert"),
        DIVNUM("divnum"),
        DNL("dnl");

        private static final BuiltIn[] ALL = values();

        private final String word;

        BuiltIn(String word) {
            this.word = word;
        }
    }

    /** A row of characters that is made once, with all its room, and used again. */
    private static final class Text {
        private final char[] chars;
        private int length;

        Text(int room) {
            chars = new char[room];
            length = 0;
        }

        void empty() {
            length = 0;
        }

        boolean add(char c) {
            if (length >= chars.length) {
                return false;
            }
            chars[length] = c;
            length++;
            return true;
        }

        /** Adds all that there is room for; false if that is not all. */
        boolean addPart(char[] from, int start, int end) {
            int fitting = Math.min(end - start, chars.length - length);
            if (fitting > 0) {
                System.arraycopy(from, start, chars, length, fitting);
                length += fitting;
            }
            return end - start <= fitting;
        }

        boolean hasRoomFor(Text other) {
            return other.length <= chars.length - length;
        }

        void set(char[] from, int start, int end) {
            length = 0;
            addPart(from, start, end);
        }

        void addNumber(long number) {
            if (number < 0) {
                add('-');
            }
            // Below 0 there is one number more than above, so the digits are taken from there.
            long rest = number < 0 ? number : -number;
            long unit = 1;
            for (int i = 1; i < MOST_DIGITS && rest / unit <= -10; i++) {
                unit *= 10;
            }
            for (int i = 0; i < MOST_DIGITS && unit > 0; i++) {
                add((char) ('0' - rest / unit % 10));
                unit /= 10;
            }
        }

        boolean isSame(char[] other, int start, int end) {
            if (end - start != length) {
                return false;
            }
            for (int i = 0; i < length; i++) {
                if (chars[i] != other[start + i]) {
                    return false;
                }
            }
            return true;
        }
    }

    /** What is still to be read lies at the array's end, so that texts can be put before it. */
    private static final class Front {
        private final char[] chars;
        private int start;

        Front() {
            chars = new char[FRONT_ROOM];
            start = FRONT_ROOM;
        }

        int length() {
            return FRONT_ROOM - start;
        }

        void load(Text text) {
            start = FRONT_ROOM;
            putBefore(text);
        }

        boolean putBefore(Text text) {
            if (text.length > start) {
                return false;
            }
            start -= text.length;
            System.arraycopy(text.chars, 0, chars, start, text.length);
            return true;
        }

        /** The place of the 39 that belongs to the 96 at the start, or NONE. */
        int closingQuote() {
            int depth = 0;
            for (int i = start; i < FRONT_ROOM; i++) {
                if (chars[i] == QUOTE_OPENS) {
                    depth++;
                } else if (chars[i] == QUOTE_CLOSES) {
                    depth--;
                    if (depth == 0) {
                        return i;
                    }
                }
            }
            return NONE;
        }

        void takeLine() {
            while (start < FRONT_ROOM && chars[start] != LINE_END) {
                start++;
            }
            if (start < FRONT_ROOM) {
                start++;
            }
        }
    }

    /** The rows that are written into. */
    private static final class Rows {
        private final Text[] row;
        private int present;

        Rows() {
            row = new Text[ROWS];
            for (int r = 0; r < ROWS; r++) {
                row[r] = new Text(ROW_ROOM);
            }
            present = 0;
        }

        void begin() {
            for (int r = 0; r < ROWS; r++) {
                row[r].empty();
            }
            present = 0;
        }

        Text presentRow() {
            return present == NONE ? null : row[present];
        }

        void choose(long number) {
            present = number >= 0 && number < ROWS ? (int) number : NONE;
        }

        /** Moves a row behind another one, or away if that is NONE; nothing if it does not fit. */
        boolean pour(int from, int into) {
            if (from == into) {
                return true;
            }
            Text poured = row[from];
            if (into != NONE) {
                if (!row[into].hasRoomFor(poured)) {
                    return false;
                }
                row[into].addPart(poured.chars, 0, poured.length);
            }
            poured.empty();
            return true;
        }

        boolean pourAll(int into) {
            for (int r = 1; r < ROWS; r++) {
                if (!pour(r, into)) {
                    return false;
                }
            }
            return true;
        }

        boolean join() {
            if (!pourAll(0)) {
                return false;
            }
            present = 0;
            return true;
        }
    }

    /** A name with one of its definitions: a body, or one of those built in. */
    private static final class Definition {
        private final Text name;
        private final Text body;
        /** Null when the body counts. */
        private BuiltIn builtIn;

        Definition() {
            name = new Text(NAME_ROOM);
            body = new Text(BODY_ROOM);
            builtIn = null;
        }

        void setBuiltIn(BuiltIn kind) {
            builtIn = kind;
            body.empty();
            name.empty();
            for (int i = 0; i < kind.word.length(); i++) {
                name.add(kind.word.charAt(i));
            }
        }

        void setBody(char[] from, int start, int end) {
            builtIn = null;
            body.set(from, start, end);
        }

        void copy(Definition other) {
            builtIn = other.builtIn;
            name.set(other.name.chars, 0, other.name.length);
            body.set(other.body.chars, 0, other.body.length);
        }
    }

    /** All definitions, the older before the newer: the last one of a name is its topmost. */
    private static final class Table {
        private final Definition[] definitions;
        private int size;

        Table() {
            definitions = new Definition[MOST_DEFINITIONS];
            for (int i = 0; i < MOST_DEFINITIONS; i++) {
                definitions[i] = new Definition();
            }
            size = 0;
            for (int i = 0; i < BuiltIn.ALL.length && i < MOST_DEFINITIONS; i++) {
                definitions[i].setBuiltIn(BuiltIn.ALL[i]);
                size++;
            }
        }

        int topmost(char[] chars, int from, int to) {
            for (int i = size - 1; i >= 0; i--) {
                if (definitions[i].name.isSame(chars, from, to)) {
                    return i;
                }
            }
            return NONE;
        }

        int macros() {
            int macros = 0;
            for (int i = 0; i < size; i++) {
                Text name = definitions[i].name;
                if (topmost(name.chars, 0, name.length) == i) {
                    macros++;
                }
            }
            return macros;
        }

        /** A new definition on top, its body still to be set; null if there are too many. */
        Definition push(char[] chars, int from, int to) {
            if (size >= MOST_DEFINITIONS) {
                return null;
            }
            Definition added = definitions[size];
            added.name.set(chars, from, to);
            size++;
            return added;
        }

        void pop(char[] chars, int from, int to) {
            int place = topmost(chars, from, to);
            if (place != NONE) {
                remove(place);
            }
        }

        void popAll(char[] chars, int from, int to) {
            for (int i = size - 1; i >= 0; i--) {
                if (definitions[i].name.isSame(chars, from, to)) {
                    remove(i);
                }
            }
        }

        /** The object that goes is kept behind the others, for a definition to come. */
        private void remove(int place) {
            Definition gone = definitions[place];
            for (int i = place; i + 1 < size; i++) {
                definitions[i] = definitions[i + 1];
            }
            size--;
            definitions[size] = gone;
        }
    }

    /** A call with its arguments, which lie one behind the other in the gathered characters. */
    private static final class Call {
        /** A copy, since the table's own one may change while arguments are gathered. */
        private final Definition definition;
        private final char[] chars;
        /** Argument i begins at starts[i - 1] and ends at starts[i]. */
        private final int[] starts;
        private int arguments;
        private int depth;
        /** Whether anything but blanks was read for the argument that is gathered. */
        private boolean begun;

        Call(char[] gathered) {
            definition = new Definition();
            chars = gathered;
            starts = new int[MOST_ARGUMENTS + 1];
            arguments = 0;
            depth = 0;
            begun = false;
        }

        int from(int argument) {
            return argument >= 1 && argument <= arguments ? starts[argument - 1] : 0;
        }

        int to(int argument) {
            return argument >= 1 && argument <= arguments ? starts[argument] : 0;
        }

        int length(int argument) {
            return to(argument) - from(argument);
        }

        long value(int argument) {
            return valueOf(chars, from(argument), to(argument));
        }

        boolean isSame(int one, int other) {
            return length(one) == length(other) && stands(other, one, 0);
        }

        /** Whether the argument part stands at that place of the argument whole. */
        boolean stands(int part, int whole, int place) {
            int length = length(part);
            if (place < 0 || length > length(whole) - place) {
                return false;
            }
            for (int i = 0; i < length; i++) {
                if (chars[from(part) + i] != chars[from(whole) + place + i]) {
                    return false;
                }
            }
            return true;
        }
    }

    /** The open calls; only the latest one gathers, so one text holds the arguments of all. */
    private static final class Calls {
        private final Text gathered;
        private final Call[] stack;
        private final Call bare;
        private int open;
        private int most;

        Calls() {
            gathered = new Text(GATHERED_ROOM);
            stack = new Call[MOST_CALLS];
            for (int i = 0; i < MOST_CALLS; i++) {
                stack[i] = new Call(gathered.chars);
            }
            bare = new Call(gathered.chars);
            open = 0;
            most = 0;
        }

        void begin() {
            gathered.empty();
            open = 0;
            most = 0;
        }

        Call latest() {
            return open > 0 ? stack[open - 1] : null;
        }

        void markBegun() {
            if (open > 0) {
                stack[open - 1].begun = true;
            }
        }

        /** A call that was never open and has no arguments. */
        Call bare(Definition definition) {
            bare.definition.copy(definition);
            return bare;
        }

        boolean start(Definition definition) {
            if (open >= MOST_CALLS) {
                return false;
            }
            Call call = stack[open];
            call.definition.copy(definition);
            call.starts[0] = gathered.length;
            call.arguments = 1;
            call.depth = 0;
            call.begun = false;
            open++;
            most = Math.max(most, open);
            return true;
        }

        boolean nextArgument(Call call) {
            if (call.arguments >= MOST_ARGUMENTS) {
                return false;
            }
            call.starts[call.arguments] = gathered.length;
            call.arguments++;
            call.begun = false;
            return true;
        }

        /** The arguments of the call that is closed can be read until the next is written. */
        Call close() {
            Call call = latest();
            if (call != null) {
                call.starts[call.arguments] = gathered.length;
                gathered.length = call.starts[0];
                open--;
            }
            return call;
        }
    }

    /** Makes the texts of expansions and does what those built in do beside. */
    private static final class Expander {
        private final Front front;
        private final Rows rows;
        private final Table table;
        private final Expression expression;
        /**
         * Has room for one more than ever fits before the front, and takes of each part all that
         * there is room for: so a text that was cut off is full, and the front refuses it.
         */
        private final Text made;

        Expander(Front front, Rows rows, Table table) {
            this.front = front;
            this.rows = rows;
            this.table = table;
            expression = new Expression();
            made = new Text(FRONT_ROOM + 1);
        }

        int expand(Call call) {
            made.empty();
            BuiltIn builtIn = call.definition.builtIn;
            if (builtIn == null) {
                makeBody(call);
            } else {
                int error = act(call, builtIn);
                if (error != FINE) {
                    return error;
                }
                makeText(call, builtIn);
            }
            return front.putBefore(made) ? FINE : SPACE;
        }

        private void makeBody(Call call) {
            Text body = call.definition.body;
            int i = 0;
            while (i < body.length) {
                boolean replaced = body.chars[i] == '$' && i + 1 < body.length
                        && makeParameter(call, body.chars[i + 1]);
                if (!replaced) {
                    made.add(body.chars[i]);
                }
                i += replaced ? 2 : 1;
            }
        }

        /** False, with nothing made, if what is behind the $ has no meaning there. */
        private boolean makeParameter(Call call, char c) {
            if (c == '0') {
                Text name = call.definition.name;
                made.addPart(name.chars, 0, name.length);
            } else if (isDigit(c)) {
                makeArgument(call, c - '0');
            } else if (c == '#') {
                made.addNumber(call.arguments);
            } else if (c == '*') {
                makeList(call, 1, false);
            } else if (c == '@') {
                makeList(call, 1, true);
            } else {
                return false;
            }
            return true;
        }

        private void makeArgument(Call call, int argument) {
            made.addPart(call.chars, call.from(argument), call.to(argument));
        }

        private void makeList(Call call, int first, boolean quoted) {
            for (int i = first; i <= call.arguments; i++) {
                if (i > first) {
                    made.add(',');
                }
                if (quoted) {
                    made.add(QUOTE_OPENS);
                }
                makeArgument(call, i);
                if (quoted) {
                    made.add(QUOTE_CLOSES);
                }
            }
        }

        /** Those built in that change something, or may err. */
        private int act(Call call, BuiltIn builtIn) {
            switch (builtIn) {
                case DEFINE:
                    return define(call, false);
                case PUSHDEF:
                    return define(call, true);
                case POPDEF:
                    table.pop(call.chars, call.from(1), call.to(1));
                    return FINE;
                case UNDEFINE:
                    table.popAll(call.chars, call.from(1), call.to(1));
                    return FINE;
                case DIVERT:
                    rows.choose(call.value(1));
                    return FINE;
                case UNDIVERT:
                    return undivert(call);
                case DNL:
                    front.takeLine();
                    return FINE;
                case EVAL:
                    return expression.reckon(call.chars, call.from(1), call.to(1), made);
                default:
                    return FINE;
            }
        }

        /** Those built in that do nothing but make a text, and never err. */
        private void makeText(Call call, BuiltIn builtIn) {
            switch (builtIn) {
                case IFDEF:
                    makeArgument(call, placeOfFirst(call) == NONE ? 3 : 2);
                    break;
                case IFELSE:
                    makeArgument(call, chosen(call));
                    break;
                case INCR:
                    made.addNumber(call.value(1) + 1);
                    break;
                case LEN:
                    made.addNumber(call.length(1));
                    break;
                case SUBSTR:
                    makePart(call);
                    break;
                case INDEX:
                    made.addNumber(index(call));
                    break;
                case SHIFT:
                    makeList(call, 2, true);
                    break;
                case DIVNUM:
                    made.addNumber(rows.present);
                    break;
                default:
                    break;
            }
        }

        private int placeOfFirst(Call call) {
            return table.topmost(call.chars, call.from(1), call.to(1));
        }

        private int define(Call call, boolean onTop) {
            if (!isName(call.chars, call.from(1), call.to(1))) {
                return FINE;
            }
            if (call.length(1) > NAME_ROOM || call.length(2) > BODY_ROOM) {
                return SPACE;
            }
            int place = onTop ? NONE : placeOfFirst(call);
            Definition target = place == NONE
                    ? table.push(call.chars, call.from(1), call.to(1))
                    : table.definitions[place];
            if (target == null) {
                return SPACE;
            }
            target.setBody(call.chars, call.from(2), call.to(2));
            return FINE;
        }

        private int undivert(Call call) {
            if (call.arguments == 0) {
                return rows.pourAll(rows.present) ? FINE : SPACE;
            }
            long number = call.value(1);
            if (number < 1 || number >= ROWS) {
                return FINE;
            }
            return rows.pour((int) number, rows.present) ? FINE : SPACE;
        }

        /** Which argument an ifelse gives; there may be none of that number. */
        private int chosen(Call call) {
            int first = 1;
            while (first < MOST_ARGUMENTS && !call.isSame(first, first + 1)) {
                if (call.arguments - first + 1 < 5) {
                    return first + 3;
                }
                first += 3;
            }
            return first + 2;
        }

        private void makePart(Call call) {
            long place = call.value(2);
            int length = call.length(1);
            if (place < 0 || place >= length) {
                return;
            }
            long many = length - place;
            if (call.arguments >= 3) {
                many = Math.min(many, call.value(3));
            }
            int from = call.from(1) + (int) place;
            made.addPart(call.chars, from, from + (int) Math.max(many, 0));
        }

        private int index(Call call) {
            for (int place = 0; place <= call.length(1) - call.length(2); place++) {
                if (call.stands(2, 1, place)) {
                    return place;
                }
            }
            return NONE;
        }
    }

    /** Reckons while it reads; what is wrong with the text goes before a division by 0. */
    private static final class Expression {
        private static final int WEAKEST = 1;
        private static final int STRONGEST = 4;

        private final Text signs;
        private int at;
        private boolean wrong;
        private boolean byZero;

        Expression() {
            signs = new Text(GATHERED_ROOM);
            at = 0;
            wrong = false;
            byZero = false;
        }

        /** Adds the value to the text that is made, unless it answers an error. */
        int reckon(char[] chars, int from, int to, Text made) {
            signs.empty();
            for (int i = from; i < to; i++) {
                if (!isBlank(chars[i])) {
                    signs.add(chars[i]);
                }
            }
            at = 0;
            wrong = false;
            byZero = false;
            long value = level(WEAKEST, 0);
            if (wrong || at < signs.length) {
                return EXPRESSION;
            }
            if (byZero) {
                return ZERO;
            }
            made.addNumber(value);
            return FINE;
        }

        /** All signs of one strength from here on; depth: the brackets and - that are around. */
        private long level(int strength, int depth) {
            if (strength > STRONGEST) {
                return operand(depth);
            }
            long left = level(strength + 1, depth);
            while (!wrong && at < signs.length && strengthOf(signs.chars[at]) == strength) {
                char sign = signs.chars[at];
                at++;
                left = combine(sign, left, level(strength + 1, depth));
            }
            return left;
        }

        private long operand(int depth) {
            char c = at < signs.length ? signs.chars[at] : 0;
            if (c != '-' && c != '(') {
                return number();
            }
            if (depth >= MOST_NESTED) {
                wrong = true;
                return 0;
            }
            at++;
            if (c == '-') {
                return -operand(depth + 1);
            }
            long inside = level(WEAKEST, depth + 1);
            if (at < signs.length && signs.chars[at] == ')') {
                at++;
            } else {
                wrong = true;
            }
            return inside;
        }

        private long number() {
            int first = at;
            long number = 0;
            while (at < signs.length && isDigit(signs.chars[at])) {
                number = number * 10 + (signs.chars[at] - '0');
                at++;
            }
            if (at == first) {
                wrong = true;
            }
            return number;
        }

        private static int strengthOf(char sign) {
            switch (sign) {
                case '&':
                case '|':
                    return 1;
                case '<':
                case '>':
                case '=':
                    return 2;
                case '+':
                case '-':
                    return 3;
                case '*':
                case '/':
                case '%':
                    return 4;
                default:
                    return 0;
            }
        }

        private long combine(char sign, long left, long right) {
            switch (sign) {
                case '&':
                    return truth(left != 0 && right != 0);
                case '|':
                    return truth(left != 0 || right != 0);
                case '<':
                    return truth(left < right);
                case '>':
                    return truth(left > right);
                case '=':
                    return truth(left == right);
                case '+':
                    return left + right;
                case '-':
                    return left - right;
                case '*':
                    return left * right;
                default:
                    return divide(sign, left, right);
            }
        }

        /** A division by 0 is only noted: the rest must still be read to know if it is right. */
        private long divide(char sign, long left, long right) {
            if (right == 0) {
                byZero = true;
                return 0;
            }
            return sign == '/' ? left / right : left % right;
        }

        private static long truth(boolean holds) {
            return holds ? 1 : 0;
        }
    }
}

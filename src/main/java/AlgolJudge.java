import java.util.Arrays;

/**
 * Judges texts of a part of Algol 60 and tells what the names in the last good one mean.
 *
 * <p>A text is read twice by the same grammar: the first reading finds what is not as the grammar
 * says and takes down what is declared, the second one knows every name and looks at meanings and
 * types. A name may be used before it is declared, so one reading would not do.
 */
public final class AlgolJudge {
    public static final int REFUSED = -1, NONE = -2, FULL = -3;

    private static final int TAPE_LIMIT = 3000;
    private static final int FED_BYTES = 20;

    // The end of the text is a token too, and so there may be one more than there are bytes.
    private static final int TOKEN_LIMIT = TAPE_LIMIT + 1;
    // Between two declared names there is another token at least.
    private static final int NAME_LIMIT = TAPE_LIMIT / 2 + 1;
    // A begin takes ten bytes with its end and a sign behind it, a procedure more; only those that
    // are still open, which are few, take less.
    private static final int SCOPE_LIMIT = TAPE_LIMIT / 9;

    private static final int DEPTH_LIMIT = 20;
    private static final int PARAMETER_LIMIT = 6;
    private static final int SWITCH_LIMIT = 20;
    private static final int STORE_LIMIT = 60;
    private static final long NUMBER_LIMIT = 34359738367L;
    private static final int LONGEST_NAME = 8;
    private static final int LONGEST_WORD = 9;

    private static final String WORDS =
        "begin end integer boolean array procedure value own switch label if then else for do step until while goto true false not and or div print";
    private static final String SIGNS = "+-*^()[],;:<=>#";

    // Kinds of tokens: the words in the order of WORDS, the signs in the order of SIGNS.
    private static final int BROKEN = -2, BAD = -1, END_OF_TEXT = 0;
    private static final int BEGIN = 1, END = 2, INTEGER = 3, BOOLEAN = 4, ARRAY = 5, PROCEDURE = 6,
        VALUE = 7, OWN = 8, SWITCH = 9, LABEL = 10, IF = 11, THEN = 12, ELSE = 13, FOR = 14, DO = 15,
        STEP = 16, UNTIL = 17, WHILE = 18, GOTO = 19, TRUE = 20, FALSE = 21, NOT = 22, AND = 23,
        OR = 24, DIV = 25, PRINT = 26;
    private static final int NAME = 27, NUMBER = 28;
    private static final int PLUS = 30, MINUS = 31, TIMES = 32, RAISED = 33, OPEN = 34, CLOSE = 35,
        OPEN_SQUARE = 36, CLOSE_SQUARE = 37, COMMA = 38, SEMICOLON = 39, COLON = 40, LESS = 41,
        EQUAL = 42, GREATER = 43, UNEQUAL = 44, LESS_EQUAL = 45, GREATER_EQUAL = 46, BECOMES = 47;

    // Kinds of declared names, as tell answers them; a parameter has none before it is specified.
    private static final int UNSPECIFIED = 0, VARIABLE_NAME = 1, ARRAY_NAME = 2, PROCEDURE_NAME = 3,
        SWITCH_NAME = 4, LABEL_NAME = 5, SIMPLE_PARAMETER = 6, ARRAY_PARAMETER = 7,
        LABEL_PARAMETER = 8;

    private static final int NO_TYPE = 0, INTEGER_TYPE = 1, BOOLEAN_TYPE = 2;

    private static final int TELL_KIND = 0, TELL_TYPE = 1, TELL_COUNT = 2, TELL_MARK = 3,
        TELL_OWNER = 4;

    // No name, no scope.
    private static final int NOTHING = -1;
    // Behind every place of a text.
    private static final int NOWHERE = TAPE_LIMIT + 1;

    private final byte[] tape;
    private final Tokens tokens;
    private final Table table;
    private final Scopes scopes;
    private final Blocks blocks;
    private final Book book;
    private int length;

    public AlgolJudge() {
        Tokens text = new Tokens();
        Table declared = new Table();
        Scopes around = new Scopes(text, declared);
        tape = new byte[TAPE_LIMIT];
        tokens = text;
        table = declared;
        scopes = around;
        blocks = new Blocks(text, around, new Rules(declared, around));
        book = new Book();
        length = 0;
    }

    public int feed(int a, int b, int c, int d, int e) {
        if (length + FED_BYTES > TAPE_LIMIT) {
            return FULL;
        }
        append(a);
        append(b);
        append(c);
        append(d);
        append(e);
        return length;
    }

    public int end(int n) {
        if (n < 0 || n > length) {
            return REFUSED;
        }
        length = n;
        return n;
    }

    public int judge() {
        tokens.scan(tape, length);
        length = 0;
        scopes.startDeclaring();
        blocks.program();
        if (tokens.fault() != NONE) {
            return tokens.fault();
        }
        scopes.startMeaning();
        blocks.program();
        if (scopes.wrong() != NONE) {
            return scopes.wrong();
        }
        book.write(table, scopes);
        return NONE;
    }

    public int names() {
        return book.size();
    }

    public int tell(int k, int what) {
        if (what < TELL_KIND || what > TELL_OWNER) {
            return REFUSED;
        }
        return book.about(k, what);
    }

    public int means(int place) {
        return book.meaning(place);
    }

    private void append(int four) {
        for (int shift = 24; shift >= 0; shift -= 8) {
            if (length < TAPE_LIMIT) {
                tape[length] = (byte) (four >> shift);
                length++;
            }
        }
    }

    /**
     * The tokens of one text, and the one that is looked at. Behind the first fault of the grammar
     * every token is BROKEN, which nothing takes: so all reading comes to its end by itself.
     */
    private static final class Tokens {
        private final int[] kinds;
        private final int[] places;
        private final long[] keys;
        private final long[] wordKeys;
        private int count;
        private int at;
        private int depth;
        private int fault;

        Tokens() {
            kinds = new int[TOKEN_LIMIT];
            places = new int[TOKEN_LIMIT];
            keys = new long[TOKEN_LIMIT];
            wordKeys = new long[PRINT + 1];
            count = 0;
            at = 0;
            depth = 0;
            fault = NONE;
            listWords();
        }

        private void listWords() {
            int word = BEGIN;
            for (int i = 0; i < WORDS.length(); i++) {
                char c = WORDS.charAt(i);
                if (c == ' ') {
                    word++;
                } else if (word <= PRINT) {
                    wordKeys[word] = longer(wordKeys[word], c);
                }
            }
        }

        void scan(byte[] text, int length) {
            count = 0;
            int place = 0;
            // Every turn leaves one byte behind at least.
            for (int turn = 0; turn < length && place < length; turn++) {
                place = scanFrom(text, length, place);
            }
            add(END_OF_TEXT, length, 0);
            fault = NONE;
            rewind();
        }

        /** Takes the blank or the token at a place, and answers the place behind it. */
        private int scanFrom(byte[] text, int length, int place) {
            int c = text[place];
            if (c == ' ' || c == '\n') {
                return place + 1;
            }
            if (isLetter(c)) {
                return scanWord(text, length, place);
            }
            if (isDigit(c)) {
                return scanNumber(text, length, place);
            }
            return scanSign(text, length, place);
        }

        private int scanWord(byte[] text, int length, int place) {
            long key = 0;
            int behind = place;
            for (; behind < length && isLetterOrDigit(text[behind]); behind++) {
                if (behind - place < LONGEST_WORD) {
                    key = longer(key, text[behind]);
                }
            }
            add(kindOfWord(key, behind - place), place, key);
            return behind;
        }

        private int kindOfWord(long key, int size) {
            if (size > LONGEST_WORD) {
                return BAD;
            }
            for (int word = BEGIN; word <= PRINT; word++) {
                if (wordKeys[word] == key) {
                    return word;
                }
            }
            return size > LONGEST_NAME ? BAD : NAME;
        }

        private int scanNumber(byte[] text, int length, int place) {
            long value = 0;
            int behind = place;
            for (; behind < length && isDigit(text[behind]); behind++) {
                // A value that is too great stays as it is, so that it can not come round again.
                if (value <= NUMBER_LIMIT) {
                    value = value * 10 + (text[behind] - '0');
                }
            }
            add(value <= NUMBER_LIMIT ? NUMBER : BAD, place, 0);
            return behind;
        }

        private int scanSign(byte[] text, int length, int place) {
            int sign = SIGNS.indexOf((char) (text[place] & 255));
            int kind = sign < 0 ? BAD : PLUS + sign;
            int pair = place + 1 < length && text[place + 1] == '=' ? withEqual(kind) : BAD;
            add(pair == BAD ? kind : pair, place, 0);
            return pair == BAD ? place + 1 : place + 2;
        }

        private static int withEqual(int kind) {
            switch (kind) {
                case COLON:
                    return BECOMES;
                case LESS:
                    return LESS_EQUAL;
                case GREATER:
                    return GREATER_EQUAL;
                default:
                    return BAD;
            }
        }

        private static boolean isLetter(int c) {
            return c >= 'a' && c <= 'z';
        }

        private static boolean isDigit(int c) {
            return c >= '0' && c <= '9';
        }

        private static boolean isLetterOrDigit(int c) {
            return isLetter(c) || isDigit(c);
        }

        /** The key of a word is a number to the base 37: so no two words share one. */
        private static long longer(long key, int c) {
            return key * 37 + (isLetter(c) ? c - 'a' + 1 : c - '0' + 27);
        }

        private void add(int kind, int place, long key) {
            if (count < TOKEN_LIMIT) {
                kinds[count] = kind;
                places[count] = place;
                keys[count] = key;
                count++;
            }
        }

        void rewind() {
            at = 0;
            depth = 0;
        }

        int fault() {
            return fault;
        }

        int kind() {
            return fault == NONE && at < count ? kinds[at] : BROKEN;
        }

        /** The kind of the token behind the one that is looked at. */
        int next() {
            return fault == NONE && at + 1 < count ? kinds[at + 1] : BROKEN;
        }

        int place() {
            return at < count ? places[at] : 0;
        }

        long key() {
            return at < count ? keys[at] : 0;
        }

        boolean sees(int kind) {
            return kind() == kind;
        }

        void advance() {
            if (at < count - 1) {
                at++;
            }
        }

        boolean accept(int kind) {
            if (kind() != kind) {
                return false;
            }
            advance();
            return true;
        }

        void take(int kind) {
            if (kind() == kind) {
                advance();
            } else {
                fail();
            }
        }

        /** The token that is looked at can not stand there. */
        void fail() {
            if (fault == NONE && at < count) {
                fault = places[at];
            }
        }

        /** Takes a token that begins what is one deeper. */
        void deepen(int kind) {
            if (depth >= DEPTH_LIMIT) {
                fail();
            }
            take(kind);
            depth++;
        }

        void rise() {
            depth--;
        }

        /** Takes the token that ends what is one deeper. */
        void riseWith(int kind) {
            take(kind);
            depth--;
        }

        /** Whether a LEFT with its := comes, and not the E of an assignment. */
        boolean seesLeft() {
            if (!sees(NAME)) {
                return false;
            }
            if (next() != OPEN_SQUARE) {
                return next() == BECOMES;
            }
            int open = 0;
            // The last token is the end of the text, so one may look behind all but it.
            for (int token = at + 1; token < count - 1; token++) {
                if (kinds[token] == OPEN_SQUARE) {
                    open++;
                } else if (kinds[token] == CLOSE_SQUARE) {
                    open--;
                }
                if (open == 0) {
                    return kinds[token + 1] == BECOMES;
                }
            }
            return false;
        }
    }

    /** All that a text declares, in rows: a name is an index of them. */
    private static final class Table {
        private final long[] keys;
        private final int[] kinds;
        private final int[] types;
        private final int[] counts;
        private final int[] places;
        private final int[] homes;
        private final int[] nexts;
        private final int[] heads;
        private final int[] valuePlaces;
        private final boolean[] owns;
        private int size;

        Table() {
            keys = new long[NAME_LIMIT];
            kinds = new int[NAME_LIMIT];
            types = new int[NAME_LIMIT];
            counts = new int[NAME_LIMIT];
            places = new int[NAME_LIMIT];
            homes = new int[NAME_LIMIT];
            nexts = new int[NAME_LIMIT];
            heads = new int[NAME_LIMIT];
            valuePlaces = new int[NAME_LIMIT];
            owns = new boolean[NAME_LIMIT];
            size = 0;
        }

        void clear() {
            size = 0;
        }

        int size() {
            return size;
        }

        /** Writes a name of the scope that is its home: its index, NOTHING if the rows are full. */
        int add(long key, int place, int home, int kind, int type) {
            if (size >= NAME_LIMIT) {
                return NOTHING;
            }
            int name = size;
            size++;
            keys[name] = key;
            kinds[name] = kind;
            types[name] = type;
            counts[name] = 0;
            places[name] = place;
            homes[name] = home;
            nexts[name] = NOTHING;
            heads[name] = NOTHING;
            valuePlaces[name] = NOTHING;
            owns[name] = false;
            return name;
        }

        void chain(int name, int next) {
            if (name >= 0 && name < size) {
                nexts[name] = next;
            }
        }

        void setCount(int name, int count) {
            if (name >= 0 && name < size) {
                counts[name] = count;
            }
        }

        void setOwn(int name) {
            if (name >= 0 && name < size) {
                owns[name] = true;
            }
        }

        void setHead(int name, int scope) {
            if (name >= 0 && name < size) {
                heads[name] = scope;
            }
        }

        void setValuePlace(int name, int place) {
            if (name >= 0 && name < size) {
                valuePlaces[name] = place;
            }
        }

        void specify(int name, int kind, int type) {
            if (name >= 0 && name < size) {
                kinds[name] = kind;
                types[name] = type;
            }
        }

        /** The first name with a key in the chain that begins with one. */
        int find(int first, long key) {
            int name = first;
            for (int i = 0; i < NAME_LIMIT && name >= 0 && name < size; i++) {
                if (keys[name] == key) {
                    return name;
                }
                name = nexts[name];
            }
            return NOTHING;
        }

        int kind(int name) {
            return name >= 0 && name < size ? kinds[name] : UNSPECIFIED;
        }

        int type(int name) {
            return name >= 0 && name < size ? types[name] : NO_TYPE;
        }

        /** Dimensions of an array, parameters of a procedure. */
        int count(int name) {
            return name >= 0 && name < size ? counts[name] : 0;
        }

        int place(int name) {
            return name >= 0 && name < size ? places[name] : 0;
        }

        int home(int name) {
            return name >= 0 && name < size ? homes[name] : NOTHING;
        }

        /** The name that is declared behind this one in the same scope. */
        int next(int name) {
            return name >= 0 && name < size ? nexts[name] : NOTHING;
        }

        /** The scope of a procedure's parameters. */
        int head(int name) {
            return name >= 0 && name < size ? heads[name] : NOTHING;
        }

        int valuePlace(int name) {
            return name >= 0 && name < size ? valuePlaces[name] : NOTHING;
        }

        boolean isMarked(int name) {
            return name >= 0 && name < size && (owns[name] || valuePlaces[name] >= 0);
        }

        boolean isFunction(int name) {
            return name >= 0 && name < size && kinds[name] == PROCEDURE_NAME
                && types[name] != NO_TYPE;
        }

        boolean isArray(int name) {
            int kind = kind(name);
            return kind == ARRAY_NAME || kind == ARRAY_PARAMETER;
        }

        boolean isLabel(int name) {
            int kind = kind(name);
            return kind == LABEL_NAME || kind == LABEL_PARAMETER;
        }

        boolean isSimple(int name) {
            int kind = kind(name);
            return kind == VARIABLE_NAME || kind == SIMPLE_PARAMETER;
        }
    }

    /**
     * The BEGINs and the procedures of a text, each a scope, numbered as they begin: so the second
     * reading, which opens them in the same order, finds them again.
     */
    private static final class Scopes {
        private final Tokens tokens;
        private final Table table;
        private final int[] parents;
        private final int[] firsts;
        private final int[] lasts;
        private final int[] procedures;
        private final int[] meanings;
        private int size;
        private int opened;
        private int current;
        private int looking;
        private int wrong;
        private boolean settled;

        Scopes(Tokens tokens, Table table) {
            this.tokens = tokens;
            this.table = table;
            parents = new int[SCOPE_LIMIT];
            firsts = new int[SCOPE_LIMIT];
            lasts = new int[SCOPE_LIMIT];
            procedures = new int[SCOPE_LIMIT];
            meanings = new int[TAPE_LIMIT];
            size = 0;
            opened = 0;
            current = NOTHING;
            looking = NOTHING;
            wrong = NOWHERE;
            settled = false;
        }

        void startDeclaring() {
            table.clear();
            Arrays.fill(meanings, NOTHING);
            size = 0;
            wrong = NOWHERE;
            settled = false;
            start();
        }

        void startMeaning() {
            settled = true;
            start();
        }

        private void start() {
            opened = 0;
            current = NOTHING;
            looking = NOTHING;
        }

        int wrong() {
            return wrong < NOWHERE ? wrong : NONE;
        }

        int size() {
            return size;
        }

        int first(int scope) {
            return scope >= 0 && scope < size ? firsts[scope] : NOTHING;
        }

        private int parent(int scope) {
            return scope >= 0 && scope < size ? parents[scope] : NOTHING;
        }

        /** The innermost procedure around a scope, or the one whose parameters it holds. */
        int procedure(int scope) {
            return scope >= 0 && scope < size ? procedures[scope] : NOTHING;
        }

        boolean isHead(int scope) {
            return scope >= 0 && table.head(procedure(scope)) == scope;
        }

        int meaning(int place) {
            return place >= 0 && place < TAPE_LIMIT ? meanings[place] : NOTHING;
        }

        void openBlock() {
            open(procedure(current));
        }

        void openProcedure(int procedure) {
            if (!settled) {
                table.setHead(procedure, opened);
            }
            open(procedure);
        }

        private void open(int procedure) {
            if (opened >= SCOPE_LIMIT) {
                tokens.fail();
                return;
            }
            if (!settled) {
                parents[opened] = current;
                firsts[opened] = NOTHING;
                lasts[opened] = NOTHING;
                procedures[opened] = procedure;
                size = opened + 1;
            }
            current = opened;
            looking = opened;
            opened++;
        }

        void close() {
            current = parent(current);
            looking = current;
        }

        /** Bounds of arrays mean what is meant outside of the BEGIN that declares the arrays. */
        void lookOutside() {
            looking = parent(current);
        }

        void lookInside() {
            looking = current;
        }

        /** Of all that is wrong the first in the text counts. */
        private void noteWrong(int place) {
            wrong = Math.min(wrong, place);
        }

        /** While declarations are still being read, no use of a name can be judged. */
        void blame(int place) {
            if (settled) {
                wrong = Math.min(wrong, place);
            }
        }

        /** Takes a NAME and declares it in the current scope. */
        int declare(int kind, int type) {
            long key = tokens.key();
            int place = tokens.place();
            tokens.take(NAME);
            if (settled || tokens.fault() != NONE || current < 0 || current >= size) {
                return NOTHING;
            }
            if (table.find(firsts[current], key) >= 0) {
                noteWrong(place);
            }
            int name = table.add(key, place, current, kind, type);
            if (firsts[current] < 0) {
                firsts[current] = name;
            } else {
                table.chain(lasts[current], name);
            }
            lasts[current] = name;
            return name;
        }

        /** Takes a NAME that is used: what it means. */
        int use() {
            long key = tokens.key();
            int place = tokens.place();
            tokens.take(NAME);
            if (!settled) {
                return NOTHING;
            }
            int name = find(key);
            if (name < 0) {
                noteWrong(place);
            } else if (place >= 0 && place < TAPE_LIMIT) {
                meanings[place] = name;
            }
            return name;
        }

        private int find(long key) {
            int scope = looking;
            for (int i = 0; i < SCOPE_LIMIT && scope >= 0 && scope < size; i++) {
                int name = table.find(firsts[scope], key);
                if (name >= 0) {
                    return name;
                }
                scope = parents[scope];
            }
            return NOTHING;
        }

        void makeOwn(int name) {
            table.setOwn(name);
        }

        /** Says of a name, and of those declared behind it, how many dimensions they have. */
        void setDimensions(int first, int dimensions) {
            if (first < 0) {
                return;
            }
            for (int name = first; name < table.size(); name++) {
                table.setCount(name, dimensions);
            }
        }

        void setParameters(int procedure, int count) {
            table.setCount(procedure, count);
        }

        /** Takes a NAME that is given as value. */
        void giveAsValue() {
            int place = tokens.place();
            int parameter = table.find(first(current), tokens.key());
            tokens.take(NAME);
            if (settled) {
                return;
            }
            if (parameter < 0 || table.valuePlace(parameter) >= 0) {
                noteWrong(place);
            } else {
                table.setValuePlace(parameter, place);
            }
        }

        /** Takes a NAME that is specified. */
        void specify(int kind, int type) {
            int place = tokens.place();
            int parameter = table.find(first(current), tokens.key());
            tokens.take(NAME);
            if (settled) {
                return;
            }
            if (parameter < 0 || table.kind(parameter) != UNSPECIFIED) {
                noteWrong(place);
                return;
            }
            table.specify(parameter, kind, type);
            if (kind != SIMPLE_PARAMETER && table.valuePlace(parameter) >= 0) {
                noteWrong(table.valuePlace(parameter));
            }
        }

        void checkAllSpecified() {
            int parameter = first(current);
            for (int i = 0; i < NAME_LIMIT && parameter >= 0; i++) {
                if (table.kind(parameter) == UNSPECIFIED) {
                    noteWrong(table.place(parameter));
                }
                parameter = table.next(parameter);
            }
        }

        boolean isWithin(int procedure) {
            int scope = current;
            for (int i = 0; i < SCOPE_LIMIT && scope >= 0; i++) {
                if (procedure(scope) == procedure) {
                    return true;
                }
                scope = parent(scope);
            }
            return false;
        }
    }

    /**
     * Where which names and types may stand. A name that means nothing has no kind, and is blamed
     * once more at the same place, which changes nothing.
     */
    private static final class Rules {
        private final Table table;
        private final Scopes scopes;

        Rules(Table table, Scopes scopes) {
            this.table = table;
            this.scopes = scopes;
        }

        /** Blames an E of a type, if it is known, that is not the one needed, if one is. */
        void need(int type, int needed, int place) {
            if (type != NO_TYPE && needed != NO_TYPE && type != needed) {
                scopes.blame(place);
            }
        }

        /** The type of a NAME with subscripts. */
        int element(int name, int subscripts, int place) {
            if (!table.isArray(name)) {
                scopes.blame(place);
                return NO_TYPE;
            }
            // How many a parameter has is found only when the program runs.
            if (table.kind(name) == ARRAY_NAME && table.count(name) != subscripts) {
                scopes.blame(place);
            }
            return table.type(name);
        }

        /** The type of a call in an E. */
        int result(int name, int actuals, int place) {
            if (!table.isFunction(name)) {
                scopes.blame(place);
                return NO_TYPE;
            }
            if (table.count(name) != actuals) {
                scopes.blame(place);
            }
            return table.type(name);
        }

        /** The type of a NAME alone in an E. */
        int value(int name, int place) {
            return table.isSimple(name) ? table.type(name) : result(name, 0, place);
        }

        /** The type of a LEFT without subscripts. */
        int target(int name, int place) {
            if (table.isSimple(name) || table.isFunction(name) && scopes.isWithin(name)) {
                return table.type(name);
            }
            scopes.blame(place);
            return NO_TYPE;
        }

        void counted(int name, int place) {
            if (table.isSimple(name)) {
                need(table.type(name), INTEGER_TYPE, place);
            } else {
                scopes.blame(place);
            }
        }

        void label(int name, int place) {
            if (!table.isLabel(name)) {
                scopes.blame(place);
            }
        }

        void switchOfLabels(int name, int place) {
            if (table.kind(name) != SWITCH_NAME) {
                scopes.blame(place);
            }
        }

        void call(int name, int actuals, int place) {
            if (table.kind(name) != PROCEDURE_NAME || table.count(name) != actuals) {
                scopes.blame(place);
            }
        }

        int firstParameter(int procedure) {
            return scopes.first(table.head(procedure));
        }

        int nextParameter(int parameter) {
            return table.next(parameter);
        }

        boolean takesExpression(int parameter) {
            return table.kind(parameter) == SIMPLE_PARAMETER;
        }

        boolean takesAnything(int parameter) {
            return table.kind(parameter) == UNSPECIFIED;
        }

        int typeOf(int parameter) {
            return table.type(parameter);
        }

        /** A NAME alone that is given for a parameter which takes no E. */
        void handOver(int name, int parameter, int place) {
            switch (table.kind(parameter)) {
                case ARRAY_PARAMETER:
                    if (!table.isArray(name) || table.type(name) != table.type(parameter)) {
                        scopes.blame(place);
                    }
                    break;
                case LABEL_PARAMETER:
                    if (!table.isLabel(name)) {
                        scopes.blame(place);
                    }
                    break;
                default:
                    if (!table.isArray(name) && !table.isLabel(name) && !table.isSimple(name)) {
                        result(name, 0, place);
                    }
                    break;
            }
        }
    }

    /** Reads an E; each part answers its type, which is NO_TYPE where nothing is to be needed. */
    private static final class Expressions {
        private final Tokens tokens;
        private final Scopes scopes;
        private final Rules rules;

        Expressions(Tokens tokens, Scopes scopes, Rules rules) {
            this.tokens = tokens;
            this.scopes = scopes;
            this.rules = rules;
        }

        int expression(int needed) {
            int place = tokens.place();
            int type = tokens.sees(IF) ? conditional() : disjunction();
            rules.need(type, needed, place);
            return type;
        }

        private int conditional() {
            tokens.deepen(IF);
            expression(BOOLEAN_TYPE);
            tokens.take(THEN);
            int type = disjunction();
            tokens.take(ELSE);
            expression(type);
            tokens.rise();
            return type;
        }

        private int disjunction() {
            int place = tokens.place();
            int type = conjunction();
            for (int i = 0; i < TOKEN_LIMIT && tokens.accept(OR); i++) {
                rules.need(type, BOOLEAN_TYPE, place);
                place = tokens.place();
                rules.need(conjunction(), BOOLEAN_TYPE, place);
                type = BOOLEAN_TYPE;
            }
            return type;
        }

        private int conjunction() {
            int place = tokens.place();
            int type = denial();
            for (int i = 0; i < TOKEN_LIMIT && tokens.accept(AND); i++) {
                rules.need(type, BOOLEAN_TYPE, place);
                place = tokens.place();
                rules.need(denial(), BOOLEAN_TYPE, place);
                type = BOOLEAN_TYPE;
            }
            return type;
        }

        private int denial() {
            if (!tokens.sees(NOT)) {
                return relation();
            }
            tokens.deepen(NOT);
            int place = tokens.place();
            rules.need(denial(), BOOLEAN_TYPE, place);
            tokens.rise();
            return BOOLEAN_TYPE;
        }

        private int relation() {
            int place = tokens.place();
            int type = sum();
            if (tokens.kind() < LESS || tokens.kind() > GREATER_EQUAL) {
                return type;
            }
            rules.need(type, INTEGER_TYPE, place);
            tokens.advance();
            place = tokens.place();
            rules.need(sum(), INTEGER_TYPE, place);
            return BOOLEAN_TYPE;
        }

        private int sum() {
            boolean signed = acceptPlusOrMinus();
            int place = tokens.place();
            int type = term();
            if (signed) {
                rules.need(type, INTEGER_TYPE, place);
                type = INTEGER_TYPE;
            }
            for (int i = 0; i < TOKEN_LIMIT && acceptPlusOrMinus(); i++) {
                rules.need(type, INTEGER_TYPE, place);
                place = tokens.place();
                rules.need(term(), INTEGER_TYPE, place);
                type = INTEGER_TYPE;
            }
            return type;
        }

        private boolean acceptPlusOrMinus() {
            return tokens.accept(PLUS) || tokens.accept(MINUS);
        }

        private int term() {
            int place = tokens.place();
            int type = power();
            for (int i = 0; i < TOKEN_LIMIT && acceptTimesOrDiv(); i++) {
                rules.need(type, INTEGER_TYPE, place);
                place = tokens.place();
                rules.need(power(), INTEGER_TYPE, place);
                type = INTEGER_TYPE;
            }
            return type;
        }

        private boolean acceptTimesOrDiv() {
            return tokens.accept(TIMES) || tokens.accept(DIV);
        }

        private int power() {
            int place = tokens.place();
            int type = atom();
            for (int i = 0; i < TOKEN_LIMIT && tokens.accept(RAISED); i++) {
                rules.need(type, INTEGER_TYPE, place);
                place = tokens.place();
                rules.need(atom(), INTEGER_TYPE, place);
                type = INTEGER_TYPE;
            }
            return type;
        }

        private int atom() {
            switch (tokens.kind()) {
                case NUMBER:
                    tokens.advance();
                    return INTEGER_TYPE;
                case TRUE:
                case FALSE:
                    tokens.advance();
                    return BOOLEAN_TYPE;
                case OPEN:
                    return bracketed(NO_TYPE);
                case NAME:
                    return named();
                default:
                    tokens.fail();
                    return NO_TYPE;
            }
        }

        /** Reads "(" E ")". */
        int bracketed(int needed) {
            tokens.deepen(OPEN);
            int type = expression(needed);
            tokens.riseWith(CLOSE);
            return type;
        }

        private int named() {
            int place = tokens.place();
            int name = scopes.use();
            if (tokens.sees(OPEN_SQUARE)) {
                return rules.element(name, subscripts(), place);
            }
            if (tokens.sees(OPEN)) {
                return rules.result(name, actuals(name), place);
            }
            return rules.value(name, place);
        }

        /** Reads "[" E [ "," E ] "]": how many there are. */
        int subscripts() {
            int count = 1;
            tokens.deepen(OPEN_SQUARE);
            expression(INTEGER_TYPE);
            if (tokens.accept(COMMA)) {
                count = 2;
                expression(INTEGER_TYPE);
            }
            tokens.riseWith(CLOSE_SQUARE);
            return count;
        }

        /** Reads "(" ACTUALS ")": how many there are. */
        int actuals(int procedure) {
            int count = 1;
            int parameter = rules.firstParameter(procedure);
            tokens.deepen(OPEN);
            actual(parameter);
            for (int i = 0; i < TOKEN_LIMIT && tokens.accept(COMMA); i++) {
                count++;
                parameter = rules.nextParameter(parameter);
                actual(parameter);
            }
            tokens.riseWith(CLOSE);
            return count;
        }

        private void actual(int parameter) {
            int place = tokens.place();
            if (rules.takesExpression(parameter)) {
                expression(rules.typeOf(parameter));
            } else if (seesNameAlone()) {
                rules.handOver(scopes.use(), parameter, place);
            } else {
                boolean conditional = tokens.sees(IF);
                int type = expression(NO_TYPE);
                // Nothing is needed of an if whose first branch has no type.
                boolean free = conditional && type == NO_TYPE;
                if (!free && !rules.takesAnything(parameter)) {
                    scopes.blame(place);
                }
            }
        }

        private boolean seesNameAlone() {
            return tokens.sees(NAME) && (tokens.next() == COMMA || tokens.next() == CLOSE);
        }
    }

    /** Reads all that is no E: BEGINs, declarations and statements. */
    private static final class Blocks {
        private final Tokens tokens;
        private final Scopes scopes;
        private final Rules rules;
        private final Expressions expressions;
        private int stored;

        Blocks(Tokens tokens, Scopes scopes, Rules rules) {
            this.tokens = tokens;
            this.scopes = scopes;
            this.rules = rules;
            expressions = new Expressions(tokens, scopes, rules);
            stored = 0;
        }

        /** Reads a PROGRAM, from the first token. */
        void program() {
            tokens.rewind();
            stored = 0;
            block();
            if (!tokens.sees(END_OF_TEXT)) {
                tokens.fail();
            }
        }

        private void block() {
            tokens.deepen(BEGIN);
            scopes.openBlock();
            for (int i = 0; i < TOKEN_LIMIT && seesDeclaration(); i++) {
                declaration();
                tokens.take(SEMICOLON);
            }
            statement();
            for (int i = 0; i < TOKEN_LIMIT && tokens.accept(SEMICOLON); i++) {
                statement();
            }
            scopes.close();
            tokens.riseWith(END);
        }

        private boolean seesDeclaration() {
            return seesType() || tokens.sees(OWN) || tokens.sees(PROCEDURE) || tokens.sees(SWITCH);
        }

        private boolean seesType() {
            return tokens.sees(INTEGER) || tokens.sees(BOOLEAN);
        }

        private void declaration() {
            if (tokens.sees(SWITCH)) {
                switchList();
            } else if (tokens.accept(OWN)) {
                variables(type(), true);
            } else {
                typedDeclaration(seesType() ? type() : NO_TYPE);
            }
        }

        private void typedDeclaration(int type) {
            if (tokens.sees(PROCEDURE)) {
                procedure(type);
            } else if (tokens.accept(ARRAY)) {
                segment(type);
                for (int i = 0; i < TOKEN_LIMIT && tokens.accept(COMMA); i++) {
                    segment(type);
                }
            } else {
                variables(type, false);
            }
        }

        private int type() {
            if (tokens.accept(BOOLEAN)) {
                return BOOLEAN_TYPE;
            }
            tokens.take(INTEGER);
            return INTEGER_TYPE;
        }

        private void variables(int type, boolean own) {
            for (int i = 0; i < TOKEN_LIMIT && (i == 0 || tokens.accept(COMMA)); i++) {
                int name = store(VARIABLE_NAME, type);
                if (own) {
                    scopes.makeOwn(name);
                }
            }
        }

        /** Declares a variable or an array, if the procedure or program around may have more. */
        private int store(int kind, int type) {
            if (stored >= STORE_LIMIT) {
                tokens.fail();
            }
            stored++;
            return scopes.declare(kind, type);
        }

        private void segment(int type) {
            int first = store(ARRAY_NAME, type);
            for (int i = 0; i < TOKEN_LIMIT && tokens.accept(COMMA); i++) {
                store(ARRAY_NAME, type);
            }
            tokens.take(OPEN_SQUARE);
            scopes.lookOutside();
            int dimensions = 0;
            for (int i = 0; i < 2 && (i == 0 || tokens.accept(COMMA)); i++) {
                expressions.expression(INTEGER_TYPE);
                tokens.take(COLON);
                expressions.expression(INTEGER_TYPE);
                dimensions++;
            }
            scopes.lookInside();
            tokens.take(CLOSE_SQUARE);
            scopes.setDimensions(first, dimensions);
        }

        private void switchList() {
            tokens.take(SWITCH);
            scopes.declare(SWITCH_NAME, NO_TYPE);
            tokens.take(BECOMES);
            for (int i = 0; i < TOKEN_LIMIT && (i == 0 || tokens.accept(COMMA)); i++) {
                if (i >= SWITCH_LIMIT) {
                    tokens.fail();
                }
                labelUse();
            }
        }

        private void labelUse() {
            int place = tokens.place();
            rules.label(scopes.use(), place);
        }

        private void procedure(int type) {
            // What is stored in a procedure is not counted outside of it.
            int storedOutside = stored;
            stored = 0;
            tokens.deepen(PROCEDURE);
            int name = scopes.declare(PROCEDURE_NAME, type);
            scopes.openProcedure(name);
            if (tokens.sees(OPEN)) {
                scopes.setParameters(name, parameters());
                tokens.take(SEMICOLON);
                values();
                specifications();
                scopes.checkAllSpecified();
            } else {
                tokens.take(SEMICOLON);
            }
            plain();
            scopes.close();
            tokens.rise();
            stored = storedOutside;
        }

        /** Reads "(" NAMES ")" of a head: how many there are. */
        private int parameters() {
            int count = 0;
            tokens.take(OPEN);
            for (int i = 0; i < TOKEN_LIMIT && (i == 0 || tokens.accept(COMMA)); i++) {
                if (i >= PARAMETER_LIMIT) {
                    tokens.fail();
                }
                scopes.declare(UNSPECIFIED, NO_TYPE);
                count++;
            }
            tokens.take(CLOSE);
            return count;
        }

        private void values() {
            if (!tokens.accept(VALUE)) {
                return;
            }
            for (int i = 0; i < TOKEN_LIMIT && (i == 0 || tokens.accept(COMMA)); i++) {
                scopes.giveAsValue();
            }
            tokens.take(SEMICOLON);
        }

        private void specifications() {
            for (int i = 0; i < TOKEN_LIMIT && (seesType() || tokens.sees(LABEL)); i++) {
                if (tokens.accept(LABEL)) {
                    specification(LABEL_PARAMETER, NO_TYPE);
                } else {
                    int type = type();
                    specification(tokens.accept(ARRAY) ? ARRAY_PARAMETER : SIMPLE_PARAMETER, type);
                }
                tokens.take(SEMICOLON);
            }
        }

        private void specification(int kind, int type) {
            for (int i = 0; i < TOKEN_LIMIT && (i == 0 || tokens.accept(COMMA)); i++) {
                scopes.specify(kind, type);
            }
        }

        private void statement() {
            for (int i = 0; i < TOKEN_LIMIT && seesLabel(); i++) {
                scopes.declare(LABEL_NAME, NO_TYPE);
                tokens.take(COLON);
            }
            plain();
        }

        private boolean seesLabel() {
            return tokens.sees(NAME) && tokens.next() == COLON;
        }

        private void plain() {
            switch (tokens.kind()) {
                case BEGIN:
                    block();
                    break;
                case NAME:
                    if (tokens.next() == BECOMES || tokens.next() == OPEN_SQUARE) {
                        assignment();
                    } else {
                        call();
                    }
                    break;
                case GOTO:
                    jump();
                    break;
                case IF:
                    choice();
                    break;
                case FOR:
                    loop();
                    break;
                case PRINT:
                    tokens.advance();
                    expressions.bracketed(INTEGER_TYPE);
                    break;
                default:
                    // A statement may be nothing; who called looks at what comes then.
                    break;
            }
        }

        private void assignment() {
            int needed = NO_TYPE;
            for (int i = 0; i < TOKEN_LIMIT && (i == 0 || tokens.seesLeft()); i++) {
                int place = tokens.place();
                int name = scopes.use();
                int type = tokens.sees(OPEN_SQUARE)
                    ? rules.element(name, expressions.subscripts(), place)
                    : rules.target(name, place);
                rules.need(type, needed, place);
                tokens.take(BECOMES);
                needed = i == 0 ? type : needed;
            }
            expressions.expression(needed);
        }

        private void call() {
            int place = tokens.place();
            int name = scopes.use();
            int count = tokens.sees(OPEN) ? expressions.actuals(name) : 0;
            rules.call(name, count, place);
        }

        private void jump() {
            tokens.take(GOTO);
            if (tokens.next() != OPEN_SQUARE) {
                labelUse();
                return;
            }
            int place = tokens.place();
            rules.switchOfLabels(scopes.use(), place);
            tokens.deepen(OPEN_SQUARE);
            expressions.expression(INTEGER_TYPE);
            tokens.riseWith(CLOSE_SQUARE);
        }

        private void choice() {
            tokens.take(IF);
            expressions.expression(BOOLEAN_TYPE);
            tokens.deepen(THEN);
            if (tokens.sees(IF) || tokens.sees(FOR)) {
                tokens.fail();
            }
            plain();
            tokens.rise();
            if (tokens.sees(ELSE)) {
                tokens.deepen(ELSE);
                plain();
                tokens.rise();
            }
        }

        private void loop() {
            tokens.take(FOR);
            int place = tokens.place();
            rules.counted(scopes.use(), place);
            tokens.take(BECOMES);
            element();
            for (int i = 0; i < TOKEN_LIMIT && tokens.accept(COMMA); i++) {
                element();
            }
            tokens.deepen(DO);
            plain();
            tokens.rise();
        }

        private void element() {
            expressions.expression(INTEGER_TYPE);
            if (tokens.accept(STEP)) {
                expressions.expression(INTEGER_TYPE);
                tokens.take(UNTIL);
                expressions.expression(INTEGER_TYPE);
            } else if (tokens.accept(WHILE)) {
                expressions.expression(BOOLEAN_TYPE);
            }
        }
    }

    /** What the last good text declares, by the numbers of its names. */
    private static final class Book {
        private final int[] kinds;
        private final int[] types;
        private final int[] counts;
        private final int[] marks;
        private final int[] owners;
        private final int[] meanings;
        private final int[] numbers;
        private boolean written;
        private int size;

        Book() {
            kinds = new int[NAME_LIMIT];
            types = new int[NAME_LIMIT];
            counts = new int[NAME_LIMIT];
            marks = new int[NAME_LIMIT];
            owners = new int[NAME_LIMIT];
            meanings = new int[TAPE_LIMIT];
            numbers = new int[NAME_LIMIT];
            written = false;
            size = 0;
        }

        int size() {
            return written ? size : NONE;
        }

        int about(int number, int what) {
            if (!written || number < 0 || number >= size) {
                return NONE;
            }
            switch (what) {
                case TELL_KIND:
                    return kinds[number];
                case TELL_TYPE:
                    return types[number];
                case TELL_COUNT:
                    return counts[number];
                case TELL_MARK:
                    return marks[number];
                default:
                    return owners[number];
            }
        }

        int meaning(int place) {
            return written && place >= 0 && place < TAPE_LIMIT ? meanings[place] : NONE;
        }

        void write(Table table, Scopes scopes) {
            written = true;
            size = 0;
            for (int scope = 0; scope < scopes.size(); scope++) {
                if (!scopes.isHead(scope)) {
                    numberBlock(table, scopes, scope);
                }
            }
            for (int name = 0; name < table.size(); name++) {
                copy(table, scopes, name);
            }
            for (int place = 0; place < TAPE_LIMIT; place++) {
                meanings[place] = numberOf(scopes.meaning(place));
            }
        }

        /** Parameters are numbered with the BEGIN that declares their procedure. */
        private void numberBlock(Table table, Scopes scopes, int scope) {
            numberChain(table, scopes.first(scope));
            int name = scopes.first(scope);
            for (int i = 0; i < NAME_LIMIT && name >= 0; i++) {
                numberChain(table, scopes.first(table.head(name)));
                name = table.next(name);
            }
        }

        private void numberChain(Table table, int first) {
            int name = first;
            for (int i = 0; i < NAME_LIMIT && name >= 0; i++) {
                if (name < NAME_LIMIT) {
                    numbers[name] = size;
                    size++;
                }
                name = table.next(name);
            }
        }

        private int numberOf(int name) {
            return name >= 0 && name < NAME_LIMIT ? numbers[name] : NOTHING;
        }

        private void copy(Table table, Scopes scopes, int name) {
            int number = numberOf(name);
            if (number < 0 || number >= NAME_LIMIT) {
                return;
            }
            kinds[number] = table.kind(name);
            types[number] = table.type(name);
            counts[number] = table.count(name);
            marks[number] = table.isMarked(name) ? 1 : 0;
            owners[number] = numberOf(scopes.procedure(table.home(name)));
        }
    }
}

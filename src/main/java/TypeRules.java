import java.util.Arrays;

/** Reads texts for a controller and judges them by the rules of DOC.md. */
public final class TypeRules {
    public static final int NONE = -1;

    private static final int MOST_BYTES = 8192;
    private static final int FED_BYTES = 20;
    private static final int MOST_OPEN = 60;
    private static final int MOST_NAME_BYTES = 32;
    // Two names never touch, so a text has at most one for every two bytes.
    private static final int MOST_TEXT_NAMES = MOST_BYTES / 2;
    // The densest text is a row of choices like "1:", which makes four nodes of two bytes.
    private static final int MOST_NODES = 2 * MOST_BYTES + 2;
    // The shortest block, PROGRAM a END_PROGRAM, takes more than twenty bytes.
    private static final int MOST_TEXT_BLOCKS = MOST_BYTES / 20;

    private static final int BOOL = 0;
    private static final int INT = 1;
    private static final int DINT = 2;

    private static final int VAR = 0;
    private static final int VAR_INPUT = 1;
    private static final int VAR_OUTPUT = 2;

    private static final int LOWEST_INT = -32768;
    private static final int HIGHEST_INT = 32767;
    private static final int HIGHEST_NUMBER = 2147483647;
    private static final int MOST_INPUTS = 8;
    private static final int STANDARD_MEANING = 100;

    private static final int FINE = 0;
    private static final int STRAY_BYTE = 1;
    private static final int OPEN_COMMENT = 2;
    private static final int LONG_NAME = 3;
    private static final int BAD_NUMBER = 4;
    private static final int BAD_PLACE = 5;
    private static final int CANNOT_COME = 6;
    private static final int TOO_DEEP = 7;
    private static final int WRONG_PROGRAM = 10;
    private static final int BLOCK_NAME_TAKEN = 11;
    private static final int VARIABLE_NAME_TAKEN = 12;
    private static final int WRONG_SECTION = 13;
    private static final int WRONG_PLACE = 14;
    private static final int WRONG_PLACE_TYPE = 15;
    private static final int WRONG_ARRAY = 16;
    private static final int WRONG_BLOCK_TYPE = 17;
    private static final int WRONG_CONSTANT = 18;
    private static final int BLOCK_TOO_LARGE = 19;
    private static final int NO_VARIABLE = 20;
    private static final int WRONG_SHAPE = 21;
    private static final int NO_NUMBER = 22;
    private static final int NO_OUTPUT = 23;
    private static final int NO_FUNCTION = 24;
    private static final int WRONG_OPERAND_COUNT = 25;
    private static final int WRONG_OPERAND_TYPES = 26;
    private static final int WRONG_TWO_TYPES = 27;
    private static final int WRONG_ONE_TYPE = 28;
    private static final int READ_ONLY = 29;
    private static final int LOOP_NAME_ASSIGNED = 30;
    private static final int DOES_NOT_FIT = 31;
    private static final int NO_INPUT = 32;
    private static final int INPUT_TWICE = 33;
    private static final int WRONG_CONDITION = 34;
    private static final int WRONG_RANGE = 35;
    private static final int WRONG_LOOP = 36;
    private static final int EXIT_OUTSIDE = 37;
    private static final int WRONG_RUNG = 38;
    private static final int COIL_NOT_LAST = 39;
    private static final int LINK_IN_LAST_ROW = 40;
    private static final int CELL_NOT_BOOL = 41;
    private static final int ALL_TOO_LARGE = 42;
    private static final int NOT_SIMPLE = 43;
    private static final int TOO_MANY_INPUTS = 44;

    private final char[] text;
    private final Tokens tokens;
    private final Tree tree;
    private final Parser parser;
    private final Blocks blocks;
    private final Rules rules;
    private int length;
    private int fault;
    private int faultPlace;
    private int nodesAtHand;
    private int blocksAtHand;
    private int cellsAtHand;

    public TypeRules() {
        text = new char[MOST_BYTES];
        Names names = new Names();
        tokens = new Tokens(text, names);
        tree = new Tree();
        parser = new Parser(tokens, tree);
        blocks = new Blocks();
        rules = new Rules(tree, names, blocks);
        length = 0;
        fault = FINE;
        faultPlace = NONE;
        nodesAtHand = 0;
        blocksAtHand = 0;
        cellsAtHand = 0;
    }

    public int clear() {
        int had = length;
        length = 0;
        return had;
    }

    public int feed(int a, int b, int c, int d, int e) {
        if (length + FED_BYTES > MOST_BYTES) {
            return NONE;
        }
        append(a);
        append(b);
        append(c);
        append(d);
        append(e);
        return length;
    }

    public int end(int n) {
        if (n < 0 || n > FED_BYTES || length < FED_BYTES) {
            return NONE;
        }
        length = length - FED_BYTES + n;
        return length;
    }

    public int judge() {
        nodesAtHand = 0;
        blocksAtHand = 0;
        cellsAtHand = 0;
        faultPlace = NONE;
        tokens.read(length);
        fault = parser.readText();
        if (fault != FINE) {
            faultPlace = tokens.placeHere();
            return fault;
        }
        fault = rules.firstFault();
        if (fault != FINE) {
            faultPlace = rules.placeOfFault();
            return fault;
        }
        nodesAtHand = tree.size();
        blocksAtHand = blocks.ownCount();
        cellsAtHand = blocks.allCells();
        return FINE;
    }

    public int count(int which) {
        switch (which) {
            case 0:
                return fault;
            case 1:
                return faultPlace;
            case 2:
                return nodesAtHand;
            case 3:
                return blocksAtHand;
            case 4:
                return cellsAtHand;
            default:
                return NONE;
        }
    }

    public int kind(int node) {
        return node < nodesAtHand ? tree.kindAt(node) : NONE;
    }

    public int type(int node) {
        return node < nodesAtHand ? tree.typeAt(node) : NONE;
    }

    public int cell(int node) {
        return node < nodesAtHand ? tree.cellAt(node) : NONE;
    }

    public int meaning(int node) {
        return node < nodesAtHand ? tree.meaningAt(node) : NONE;
    }

    public int frame(int block) {
        if (block < 0 || block >= blocksAtHand) {
            return NONE;
        }
        return blocks.cellsOf(block + Blocks.FIRST_OWN);
    }

    public int place(int block) {
        if (block < 0 || block >= blocksAtHand) {
            return NONE;
        }
        return blocks.placeOf(block + Blocks.FIRST_OWN);
    }

    private void append(int four) {
        for (int shift = 24; shift >= 0; shift -= 8) {
            if (length < MOST_BYTES) {
                text[length] = (char) ((four >>> shift) & 255);
                length++;
            }
        }
    }

    /** The kinds of tokens: first the words, numbered as their names are. */
    private static final class Word {
        static final int FUNCTION = 0;
        static final int FUNCTION_BLOCK = 2;
        static final int PROGRAM = 4;
        static final int VAR = 6;
        static final int VAR_INPUT = 7;
        static final int VAR_OUTPUT = 8;
        static final int END_VAR = 9;
        static final int AT = 10;
        static final int BOOL = 11;
        static final int INT = 12;
        static final int DINT = 13;
        static final int ARRAY = 14;
        static final int OF = 15;
        static final int IF = 16;
        static final int THEN = 17;
        static final int ELSIF = 18;
        static final int ELSE = 19;
        static final int END_IF = 20;
        static final int CASE = 21;
        static final int END_CASE = 22;
        static final int FOR = 23;
        static final int TO = 24;
        static final int BY = 25;
        static final int DO = 26;
        static final int END_FOR = 27;
        static final int EXIT = 28;
        static final int RETURN = 29;
        static final int OR = 30;
        static final int XOR = 31;
        static final int AND = 32;
        static final int MOD = 33;
        static final int NOT = 34;
        static final int TRUE = 35;
        static final int FALSE = 36;
        static final int LADDER = 37;
        static final int END_LADDER = 38;
        static final int RUNG = 39;
        static final int END_RUNG = 40;
        static final int COUNT = 41;

        static final int NAME = 41;
        static final int NUMBER = 42;
        static final int PLACE = 43;
        static final int TEXT_END = 44;
        static final int BADLY_WRITTEN = 45;
        // Matches nothing, so a parser that stands on it takes no token more.
        static final int STOPPED = 46;

        static final int BECOMES = 47;
        static final int DOTS = 48;
        static final int AT_MOST = 49;
        static final int AT_LEAST = 50;
        static final int UNEQUAL = 51;
        static final String SIGNS = "()[],;:.+-*/=<>&|";
        static final int FIRST_SIGN = 52;
        static final int LEFT_ROUND = 52;
        static final int RIGHT_ROUND = 53;
        static final int LEFT_SQUARE = 54;
        static final int RIGHT_SQUARE = 55;
        static final int COMMA = 56;
        static final int SEMICOLON = 57;
        static final int COLON = 58;
        static final int DOT = 59;
        static final int PLUS = 60;
        static final int MINUS = 61;
        static final int STAR = 62;
        static final int SLASH = 63;
        static final int EQUAL = 64;
        static final int LESS = 65;
        static final int GREATER = 66;
        static final int AMPERSAND = 67;
        static final int BAR = 68;
    }

    /** The kinds of nodes. */
    private static final class Node {
        static final int TEXT = 0;
        static final int FUNCTION = 1;
        static final int FUNCTION_BLOCK = 2;
        static final int PROGRAM = 3;
        static final int SECTION = 4;
        static final int DECLARATION = 5;
        static final int NAME = 6;
        static final int PLACE = 7;
        static final int TYPE = 8;
        static final int ARRAY = 9;
        static final int BLOCK_TYPE = 10;
        static final int BODY = 11;
        static final int ASSIGNMENT = 12;
        static final int INVOCATION = 13;
        static final int PARAMETER = 14;
        static final int IF = 15;
        static final int CASE = 16;
        static final int CHOICE = 17;
        static final int RANGE = 18;
        static final int FOR = 19;
        static final int EXIT = 20;
        static final int RETURN = 21;
        static final int LADDER = 22;
        static final int RUNG = 23;
        static final int ROW = 24;
        static final int CONTACT = 25;
        static final int WIRE = 26;
        static final int GAP = 27;
        static final int COIL = 28;
        static final int LINK = 29;
        static final int NUMBER = 30;
        static final int TRUTH = 31;
        static final int ELEMENT = 32;
        static final int OUTPUT = 33;
        static final int CALL = 34;
        static final int TWO = 35;
        static final int ONE = 36;
    }

    /** Numbers for names: the words first, then the standard names, then those of the text. */
    private static final class Names {
        static final int FIRST_FUNCTION = Word.COUNT + 9;
        static final int FIRST_PIN = FIRST_FUNCTION + 10;
        static final int FIXED = FIRST_PIN + 15;
        static final int MOST = FIXED + MOST_TEXT_NAMES;

        private static final String BLOCK_WORDS =
            "FUNCTION END_FUNCTION FUNCTION_BLOCK END_FUNCTION_BLOCK PROGRAM END_PROGRAM";
        private static final String DECLARATION_WORDS =
            "VAR VAR_INPUT VAR_OUTPUT END_VAR AT BOOL INT DINT ARRAY OF";
        private static final String STATEMENT_WORDS =
            "IF THEN ELSIF ELSE END_IF CASE END_CASE FOR TO BY DO END_FOR EXIT RETURN";
        private static final String OPERAND_WORDS = "OR XOR AND MOD NOT TRUE FALSE";
        private static final String LADDER_WORDS = "LADDER END_LADDER RUNG END_RUNG";
        private static final String BLOCKS = "TON TOF TP CTU CTD R_TRIG F_TRIG SR RS";
        private static final String FUNCTIONS = "ABS MIN MAX LIMIT SEL SHL SHR TO_INT TO_DINT TO_BOOL";
        private static final String PINS = "IN PT Q ET CU R PV CV CD LD CLK S1 Q1 S R1";

        private static final int FIXED_LETTERS = 512;
        private static final int BUCKETS = 1024;

        private final char[] letters;
        private final int[] starts;
        private final int[] heads;
        private final int[] older;
        private int count;

        Names() {
            letters = new char[FIXED_LETTERS + MOST_BYTES];
            starts = new int[MOST + 1];
            heads = new int[BUCKETS];
            older = new int[MOST];
            count = 0;
            Arrays.fill(heads, NONE);
            learn(BLOCK_WORDS);
            learn(DECLARATION_WORDS);
            learn(STATEMENT_WORDS);
            learn(OPERAND_WORDS);
            learn(LADDER_WORDS);
            learn(BLOCKS);
            learn(FUNCTIONS);
            learn(PINS);
        }

        private void learn(String list) {
            char[] source = list.toCharArray();
            int from = 0;
            for (int i = 0; i <= source.length; i++) {
                if (i == source.length || source[i] == ' ') {
                    numberOf(source, from, i);
                    from = i + 1;
                }
            }
        }

        int size() {
            return count;
        }

        /** Forgets the names of the text before; the newest stand first in their chains. */
        void forgetText() {
            for (int name = count - 1; name >= FIXED; name--) {
                heads[bucketOf(letters, starts[name], starts[name + 1])] = older[name];
            }
            count = Math.min(count, FIXED);
        }

        int numberOf(char[] source, int from, int to) {
            int bucket = bucketOf(source, from, to);
            int name = heads[bucket];
            for (int left = count; left > 0 && name >= 0 && name < count; left--) {
                if (isSame(name, source, from, to)) {
                    return name;
                }
                name = older[name];
            }
            return add(bucket, source, from, to);
        }

        private int add(int bucket, char[] source, int from, int to) {
            int start = starts[Math.min(count, MOST)];
            if (count >= MOST || start + to - from > letters.length) {
                return NONE;
            }
            for (int i = from; i < to; i++) {
                letters[start + i - from] = great(source[i]);
            }
            starts[count + 1] = start + to - from;
            older[count] = heads[bucket];
            heads[bucket] = count;
            count++;
            return count - 1;
        }

        private boolean isSame(int name, char[] source, int from, int to) {
            int start = starts[name];
            if (starts[name + 1] - start != to - from) {
                return false;
            }
            for (int i = from; i < to; i++) {
                if (letters[start + i - from] != great(source[i])) {
                    return false;
                }
            }
            return true;
        }

        private static int bucketOf(char[] source, int from, int to) {
            int hash = 0;
            for (int i = from; i < to; i++) {
                hash = hash * 31 + great(source[i]);
            }
            return hash & (BUCKETS - 1);
        }

        static char great(char letter) {
            return letter >= 'a' && letter <= 'z' ? (char) (letter - 'a' + 'A') : letter;
        }

        /** Which standard function has this name, or NONE. */
        static int functionOf(int name) {
            return name >= FIRST_FUNCTION && name < FIRST_PIN ? name - FIRST_FUNCTION : NONE;
        }
    }

    /** The text's tokens up to the first that is badly written, and the one on which the parser stands. */
    private static final class Tokens {
        private static final int HIGHEST_X = 255;
        private static final int HIGHEST_W = 63;
        // Far above every number that may stand, and far below where a time in hours would wrap around.
        private static final long TOO_MUCH = 1L << 32;

        private final char[] text;
        private final Names names;
        private final int[] kinds;
        private final int[] places;
        private final int[] values;
        private int count;
        private int length;
        private int next;
        private long amount;
        private int here;
        private int kindHere;

        Tokens(char[] text, Names names) {
            this.text = text;
            this.names = names;
            kinds = new int[MOST_BYTES + 1];
            places = new int[MOST_BYTES + 1];
            values = new int[MOST_BYTES + 1];
            count = 0;
            length = 0;
            next = 0;
            amount = 0;
            here = 0;
            kindHere = Word.STOPPED;
        }

        void read(int bytes) {
            names.forgetText();
            length = Math.min(bytes, text.length);
            count = 0;
            next = 0;
            boolean more = true;
            for (int left = length + 1; more && left > 0; left--) {
                more = readToken();
            }
            here = 0;
            kindHere = kinds[0];
        }

        int kindHere() {
            return kindHere;
        }

        int placeHere() {
            return places[here];
        }

        int valueHere() {
            return values[here];
        }

        int placeBefore() {
            return here > 0 ? places[here - 1] : 0;
        }

        boolean isHere(int kind) {
            return kindHere == kind;
        }

        boolean isNext(int kind) {
            return here + 1 < count && kinds[here + 1] == kind;
        }

        void step() {
            if (kindHere != Word.STOPPED && here + 1 < count) {
                here++;
                kindHere = kinds[here];
            }
        }

        /** Goes on behind a token of this kind; another one can't come, and all reading stops there. */
        void expect(int kind) {
            if (kindHere == kind && here + 1 < count) {
                here++;
                kindHere = kinds[here];
            } else {
                kindHere = Word.STOPPED;
            }
        }

        void stop() {
            kindHere = Word.STOPPED;
        }

        /** Why the token here can't be taken. */
        int faultHere() {
            return kinds[here] == Word.BADLY_WRITTEN ? values[here] : CANNOT_COME;
        }

        /** Reads one token; false behind the last one. */
        private boolean readToken() {
            if (!skipBlanks()) {
                return addBad(OPEN_COMMENT, next);
            }
            int first = byteAt(next);
            if (first == NONE) {
                add(Word.TEXT_END, next, 0);
                return false;
            }
            if ((first == 'T' || first == 't') && byteAt(next + 1) == '#') {
                return readTime();
            }
            if (isDigit(first)) {
                return readNumber();
            }
            if (isNamePart(first)) {
                return readName();
            }
            if (first == '%') {
                return readPlace();
            }
            return readSign(first);
        }

        private int byteAt(int i) {
            return i >= 0 && i < length ? text[i] : NONE;
        }

        private static boolean isDigit(int c) {
            return c >= '0' && c <= '9';
        }

        private static boolean isNamePart(int c) {
            return c >= 'A' && c <= 'Z' || c >= 'a' && c <= 'z' || c == '_' || isDigit(c);
        }

        private void add(int kind, int place, int value) {
            if (count < kinds.length) {
                kinds[count] = kind;
                places[count] = place;
                values[count] = value;
                count++;
            }
        }

        private boolean addBad(int fault, int place) {
            add(Word.BADLY_WRITTEN, place, fault);
            return false;
        }

        private boolean skipBlanks() {
            for (int left = length + 1; left > 0; left--) {
                int c = byteAt(next);
                if (c == 9 || c == 10 || c == 13 || c == 32) {
                    next++;
                } else if (c != '(' || byteAt(next + 1) != '*') {
                    return true;
                } else if (!skipComment()) {
                    return false;
                }
            }
            return true;
        }

        private boolean skipComment() {
            for (int i = next + 2; i + 1 < length; i++) {
                if (text[i] == '*' && text[i + 1] == ')') {
                    next = i + 2;
                    return true;
                }
            }
            return false;
        }

        private boolean readName() {
            int begin = next;
            int behind = begin;
            while (behind < length && isNamePart(text[behind])) {
                behind++;
            }
            if (behind - begin > MOST_NAME_BYTES) {
                return addBad(LONG_NAME, begin);
            }
            next = behind;
            int name = names.numberOf(text, begin, behind);
            add(name >= 0 && name < Word.COUNT ? name : Word.NAME, begin, name);
            return true;
        }

        private boolean readNumber() {
            int begin = next;
            readDigits(10);
            if (byteAt(next) == '#') {
                next++;
                if (amount != 16 && amount != 2 || readDigits((int) amount) == 0) {
                    return addBad(BAD_NUMBER, begin);
                }
            }
            return addNumber(begin);
        }

        private boolean readTime() {
            int begin = next;
            next += 2;
            int digits = readDigits(10);
            int unit = readUnit();
            if (digits == 0 || unit == 0) {
                return addBad(BAD_NUMBER, begin);
            }
            amount *= unit;
            return addNumber(begin);
        }

        private boolean addNumber(int begin) {
            if (isNamePart(byteAt(next)) || amount > HIGHEST_NUMBER) {
                return addBad(BAD_NUMBER, begin);
            }
            add(Word.NUMBER, begin, (int) amount);
            return true;
        }

        /** Takes the digits into amount, and answers how many there were. */
        private int readDigits(int base) {
            int begin = next;
            amount = 0;
            while (next < length && digitOf(text[next]) < base) {
                amount = Math.min(amount * base + digitOf(text[next]), TOO_MUCH);
                next++;
            }
            return next - begin;
        }

        private static int digitOf(char c) {
            if (isDigit(c)) {
                return c - '0';
            }
            char letter = Names.great(c);
            return letter >= 'A' && letter <= 'F' ? letter - 'A' + 10 : 16;
        }

        /** How many milliseconds the unit here has; 0 if there is none. */
        private int readUnit() {
            int c = greatAt(next);
            if (c == 'M' && greatAt(next + 1) == 'S') {
                next += 2;
                return 1;
            }
            next++;
            switch (c) {
                case 'S':
                    return 1000;
                case 'M':
                    return 60000;
                case 'H':
                    return 3600000;
                default:
                    return 0;
            }
        }

        private int greatAt(int i) {
            return i >= 0 && i < length ? Names.great(text[i]) : NONE;
        }

        private boolean readPlace() {
            int begin = next;
            int area = areaOf(greatAt(begin + 1));
            int size = greatAt(begin + 2);
            boolean known = area != NONE && (size == 'X' || size == 'W');
            next += 3;
            if (!known || readDigits(10) == 0 || amount > (size == 'X' ? HIGHEST_X : HIGHEST_W)
                    || isNamePart(byteAt(next))) {
                return addBad(BAD_PLACE, begin);
            }
            int before = size == 'X' ? area : area + 3;
            add(Word.PLACE, begin, 256 * before + (int) amount);
            return true;
        }

        private static int areaOf(int letter) {
            switch (letter) {
                case 'I':
                    return 0;
                case 'Q':
                    return 1;
                case 'M':
                    return 2;
                default:
                    return NONE;
            }
        }

        private boolean readSign(int first) {
            int begin = next;
            int two = twoByteSign(first, byteAt(begin + 1));
            if (two != NONE) {
                next += 2;
                add(two, begin, 0);
                return true;
            }
            int sign = Word.SIGNS.indexOf((char) first);
            if (sign < 0) {
                return addBad(STRAY_BYTE, begin);
            }
            next++;
            add(Word.FIRST_SIGN + sign, begin, 0);
            return true;
        }

        private static int twoByteSign(int first, int second) {
            if (first == ':' && second == '=') {
                return Word.BECOMES;
            }
            if (first == '.' && second == '.') {
                return Word.DOTS;
            }
            if (first == '<' && second == '=') {
                return Word.AT_MOST;
            }
            if (first == '>' && second == '=') {
                return Word.AT_LEAST;
            }
            return first == '<' && second == '>' ? Word.UNEQUAL : NONE;
        }
    }

    /** The nodes, each before its children: a node with all below it is one run of rows. */
    private static final class Tree {
        private final int[] kinds;
        private final int[] places;
        private final int[] values;
        private final int[] sizes;
        private final int[] parents;
        private final int[] types;
        private final int[] cells;
        private final int[] meanings;
        private int count;

        Tree() {
            kinds = new int[MOST_NODES];
            places = new int[MOST_NODES];
            values = new int[MOST_NODES];
            sizes = new int[MOST_NODES];
            parents = new int[MOST_NODES];
            types = new int[MOST_NODES];
            cells = new int[MOST_NODES];
            meanings = new int[MOST_NODES];
            count = 0;
        }

        void reset() {
            count = 0;
        }

        int size() {
            return count;
        }

        /** A new last node; what is added until it is closed stands below it. */
        int add(int kind, int place, int value) {
            if (count >= MOST_NODES) {
                return NONE;
            }
            kinds[count] = kind;
            places[count] = place;
            values[count] = value;
            sizes[count] = 1;
            parents[count] = NONE;
            types[count] = NONE;
            cells[count] = NONE;
            meanings[count] = NONE;
            count++;
            return count - 1;
        }

        /** A new node with all nodes from this one on below it. */
        void wrap(int from, int kind, int place, int value) {
            int moved = count - from;
            if (add(kind, place, value) == NONE || from < 0 || moved <= 0) {
                return;
            }
            System.arraycopy(kinds, from, kinds, from + 1, moved);
            System.arraycopy(places, from, places, from + 1, moved);
            System.arraycopy(values, from, values, from + 1, moved);
            System.arraycopy(sizes, from, sizes, from + 1, moved);
            kinds[from] = kind;
            places[from] = place;
            values[from] = value;
            sizes[from] = moved + 1;
        }

        void close(int node) {
            if (node >= 0 && node < count) {
                sizes[node] = count - node;
            }
        }

        int kindAt(int node) {
            return node >= 0 && node < count ? kinds[node] : NONE;
        }

        int placeAt(int node) {
            return node >= 0 && node < count ? places[node] : NONE;
        }

        int valueAt(int node) {
            return node >= 0 && node < count ? values[node] : NONE;
        }

        int parentOf(int node) {
            return node >= 0 && node < count ? parents[node] : NONE;
        }

        int typeAt(int node) {
            return node >= 0 && node < count ? types[node] : NONE;
        }

        int cellAt(int node) {
            return node >= 0 && node < count ? cells[node] : NONE;
        }

        int meaningAt(int node) {
            return node >= 0 && node < count ? meanings[node] : NONE;
        }

        /** The first node behind this one and all below it; of no node, behind all. */
        int behind(int node) {
            // Always further on, so a loop from child to child comes to its end.
            return node >= 0 && node < count ? node + Math.max(sizes[node], 1) : count;
        }

        void setPlace(int node, int place) {
            if (node >= 0 && node < count) {
                places[node] = place;
            }
        }

        void setValue(int node, int value) {
            if (node >= 0 && node < count) {
                values[node] = value;
            }
        }

        void setParent(int node, int parent) {
            if (node >= 0 && node < count) {
                parents[node] = parent;
            }
        }

        void setType(int node, int type) {
            if (node >= 0 && node < count) {
                types[node] = type;
            }
        }

        void setCell(int node, int cell) {
            if (node >= 0 && node < count) {
                cells[node] = cell;
            }
        }

        void setMeaning(int node, int meaning) {
            if (node >= 0 && node < count) {
                meanings[node] = meaning;
            }
        }

        int childCount(int node) {
            int found = 0;
            int end = behind(node);
            for (int child = node + 1; child < end; child = behind(child)) {
                found++;
            }
            return found;
        }

        /** Whether the node stands in a FOR; with a name, in a FOR of that name. */
        boolean isInLoop(int node, int name) {
            int above = parentOf(node);
            for (int left = count; left > 0 && above != NONE; left--) {
                if (kindAt(above) == Node.FOR && (name == NONE || valueAt(above) == name)) {
                    return true;
                }
                above = parentOf(above);
            }
            return false;
        }
    }

    /**
     * Makes the tree of the tokens. It stops at the first token that can't come: from there on no token
     * matches, so every method and loop ends, and the token itself stays where it can be told.
     */
    private static final class Parser {
        // As closeness: takes every sign, and what it opened between operands ends with it.
        private static final int OUTERMOST = -1;
        // How close each sign or word between operands binds.
        private static final int[] BINDING = {0, 1, 2, 3, 3, 4, 4, 4, 4, 5, 5, 6, 6, 6};

        private final Tokens tokens;
        private final Tree tree;
        private int open;
        private boolean tooDeep;

        Parser(Tokens tokens, Tree tree) {
            this.tokens = tokens;
            this.tree = tree;
            open = 0;
            tooDeep = false;
        }

        /** Reads all, and answers the fault of the token on which reading stopped. */
        int readText() {
            tree.reset();
            open = 0;
            tooDeep = false;
            int node = tree.add(Node.TEXT, 0, 0);
            boolean more = true;
            for (int left = MOST_BYTES; more && left > 0; left--) {
                more = readBlock();
            }
            tree.close(node);
            if (tooDeep) {
                return TOO_DEEP;
            }
            return tokens.isHere(Word.TEXT_END) ? FINE : tokens.faultHere();
        }

        private boolean readBlock() {
            int word = tokens.kindHere();
            if (word != Word.FUNCTION && word != Word.FUNCTION_BLOCK && word != Word.PROGRAM) {
                return false;
            }
            int node = tree.add(blockKind(word), tokens.placeHere(), 0);
            tokens.step();
            tree.setValue(node, tokens.valueHere());
            tokens.expect(Word.NAME);
            if (word == Word.FUNCTION) {
                tokens.expect(Word.COLON);
                readSimple();
            }
            boolean more = true;
            for (int left = MOST_BYTES; more && left > 0; left--) {
                more = readSection();
            }
            if (tokens.isHere(Word.LADDER)) {
                readLadder();
            } else {
                readBody();
            }
            // In the list of words each block's end stands right behind its beginning.
            tokens.expect(word + 1);
            tree.close(node);
            return true;
        }

        private static int blockKind(int word) {
            switch (word) {
                case Word.FUNCTION:
                    return Node.FUNCTION;
                case Word.FUNCTION_BLOCK:
                    return Node.FUNCTION_BLOCK;
                default:
                    return Node.PROGRAM;
            }
        }

        private boolean readSection() {
            int word = tokens.kindHere();
            if (word != Word.VAR && word != Word.VAR_INPUT && word != Word.VAR_OUTPUT) {
                return false;
            }
            int node = tree.add(Node.SECTION, tokens.placeHere(), word - Word.VAR);
            tokens.step();
            for (int left = MOST_BYTES; left > 0 && tokens.isHere(Word.NAME); left--) {
                readDeclaration();
            }
            tokens.expect(Word.END_VAR);
            tree.close(node);
            return true;
        }

        private void readDeclaration() {
            int node = tree.add(Node.DECLARATION, tokens.placeHere(), 0);
            readName();
            for (int left = MOST_BYTES; left > 0 && tokens.isHere(Word.COMMA); left--) {
                tokens.step();
                readName();
            }
            if (tokens.isHere(Word.AT)) {
                tokens.step();
                tree.add(Node.PLACE, tokens.placeHere(), tokens.valueHere());
                tokens.expect(Word.PLACE);
            }
            tokens.expect(Word.COLON);
            if (tokens.isHere(Word.ARRAY)) {
                readArray();
            } else if (tokens.isHere(Word.NAME)) {
                tree.add(Node.BLOCK_TYPE, tokens.placeHere(), tokens.valueHere());
                tokens.step();
            } else {
                readSimple();
            }
            if (tokens.isHere(Word.BECOMES)) {
                tokens.step();
                readConstant();
            }
            tokens.expect(Word.SEMICOLON);
            tree.close(node);
        }

        private void readName() {
            tree.add(Node.NAME, tokens.placeHere(), tokens.valueHere());
            tokens.expect(Word.NAME);
        }

        private void readSimple() {
            int word = tokens.kindHere();
            if (word == Word.BOOL || word == Word.INT || word == Word.DINT) {
                tree.add(Node.TYPE, tokens.placeHere(), word - Word.BOOL);
                tokens.step();
            } else {
                tokens.stop();
            }
        }

        private void readArray() {
            int node = tree.add(Node.ARRAY, tokens.placeHere(), 0);
            tokens.step();
            tokens.expect(Word.LEFT_SQUARE);
            readConstant();
            tokens.expect(Word.DOTS);
            readConstant();
            tokens.expect(Word.RIGHT_SQUARE);
            tokens.expect(Word.OF);
            readSimple();
            tree.close(node);
        }

        private void readConstant() {
            int place = tokens.placeHere();
            if (tokens.isHere(Word.TRUE) || tokens.isHere(Word.FALSE)) {
                tree.add(Node.TRUTH, place, tokens.isHere(Word.TRUE) ? 1 : 0);
                tokens.step();
                return;
            }
            boolean negative = tokens.isHere(Word.MINUS);
            if (negative) {
                tokens.step();
            }
            int value = tokens.valueHere();
            tree.add(Node.NUMBER, place, negative ? -value : value);
            tokens.expect(Word.NUMBER);
        }

        private boolean isConstantHere() {
            return tokens.isHere(Word.NUMBER) || tokens.isHere(Word.MINUS)
                || tokens.isHere(Word.TRUE) || tokens.isHere(Word.FALSE);
        }

        /** Takes the token here, which can come, and counts it as open. */
        private void openHere() {
            if (open < MOST_OPEN) {
                open++;
                tokens.step();
            } else {
                tooDeep = true;
                tokens.stop();
            }
        }

        private void readBody() {
            int node = tree.add(Node.BODY, tokens.placeBefore(), 0);
            boolean more = true;
            for (int left = MOST_BYTES; more && left > 0; left--) {
                more = readStatement();
            }
            tree.close(node);
        }

        private boolean readStatement() {
            switch (tokens.kindHere()) {
                case Word.SEMICOLON:
                    break;
                case Word.NAME:
                    if (tokens.isNext(Word.LEFT_ROUND)) {
                        readInvocation();
                    } else {
                        readAssignment();
                    }
                    break;
                case Word.IF:
                    readIf();
                    break;
                case Word.CASE:
                    readCase();
                    break;
                case Word.FOR:
                    readFor();
                    break;
                case Word.EXIT:
                    tree.add(Node.EXIT, tokens.placeHere(), 0);
                    tokens.step();
                    break;
                case Word.RETURN:
                    tree.add(Node.RETURN, tokens.placeHere(), 0);
                    tokens.step();
                    break;
                default:
                    return false;
            }
            tokens.expect(Word.SEMICOLON);
            return true;
        }

        private void readAssignment() {
            int node = tree.add(Node.ASSIGNMENT, 0, 0);
            if (tokens.isNext(Word.LEFT_SQUARE)) {
                readElement(OUTERMOST);
            } else {
                readName();
            }
            tree.setPlace(node, tokens.placeHere());
            tokens.expect(Word.BECOMES);
            readExpression(OUTERMOST);
            tree.close(node);
        }

        private void readInvocation() {
            int node = tree.add(Node.INVOCATION, tokens.placeHere(), tokens.valueHere());
            tokens.step();
            openHere();
            boolean more = !tokens.isHere(Word.RIGHT_ROUND);
            for (int left = MOST_BYTES; more && left > 0; left--) {
                int parameter = tree.add(Node.PARAMETER, tokens.placeHere(), tokens.valueHere());
                tokens.expect(Word.NAME);
                tokens.expect(Word.BECOMES);
                readExpression(OUTERMOST);
                tree.close(parameter);
                more = tokens.isHere(Word.COMMA);
                if (more) {
                    tokens.step();
                }
            }
            open--;
            tokens.expect(Word.RIGHT_ROUND);
            tree.close(node);
        }

        private void readIf() {
            int node = tree.add(Node.IF, tokens.placeHere(), 0);
            openHere();
            readExpression(OUTERMOST);
            tokens.expect(Word.THEN);
            readBody();
            for (int left = MOST_BYTES; left > 0 && tokens.isHere(Word.ELSIF); left--) {
                tokens.step();
                readExpression(OUTERMOST);
                tokens.expect(Word.THEN);
                readBody();
            }
            if (tokens.isHere(Word.ELSE)) {
                tokens.step();
                readBody();
            }
            tokens.expect(Word.END_IF);
            open--;
            tree.close(node);
        }

        private void readCase() {
            int node = tree.add(Node.CASE, tokens.placeHere(), 0);
            openHere();
            readExpression(OUTERMOST);
            tokens.expect(Word.OF);
            for (int left = MOST_BYTES; left > 0 && isConstantHere(); left--) {
                int choice = tree.add(Node.CHOICE, tokens.placeHere(), 0);
                readRanges();
                readBody();
                tree.close(choice);
            }
            if (tokens.isHere(Word.ELSE)) {
                tokens.step();
                readBody();
            }
            tokens.expect(Word.END_CASE);
            open--;
            tree.close(node);
        }

        private void readRanges() {
            boolean more = true;
            for (int left = MOST_BYTES; more && left > 0; left--) {
                int range = tree.add(Node.RANGE, tokens.placeHere(), 0);
                readConstant();
                if (tokens.isHere(Word.DOTS)) {
                    tokens.step();
                    readConstant();
                }
                tree.close(range);
                more = tokens.isHere(Word.COMMA);
                if (more) {
                    tokens.step();
                }
            }
            tokens.expect(Word.COLON);
        }

        private void readFor() {
            int node = tree.add(Node.FOR, tokens.placeHere(), 0);
            openHere();
            tree.setValue(node, tokens.valueHere());
            tokens.expect(Word.NAME);
            tokens.expect(Word.BECOMES);
            readConstant();
            tokens.expect(Word.TO);
            readConstant();
            if (tokens.isHere(Word.BY)) {
                tokens.step();
                readConstant();
            }
            tokens.expect(Word.DO);
            readBody();
            tokens.expect(Word.END_FOR);
            open--;
            tree.close(node);
        }

        /** Operands with only such signs and words between them as bind at least so close. */
        private void readExpression(int closeness) {
            int before = open;
            int from = tree.size();
            readOperand();
            int sign = signHere();
            for (int left = MOST_BYTES; left > 0 && sign >= 0 && sign < BINDING.length
                    && BINDING[sign] >= closeness; left--) {
                tree.wrap(from, Node.TWO, tokens.placeHere(), sign);
                openHere();
                readExpression(BINDING[sign] + 1);
                tree.close(from);
                sign = signHere();
            }
            if (closeness == OUTERMOST) {
                open = before;
            }
        }

        /** The value of a TWO with the token here between its operands, or NONE. */
        private int signHere() {
            switch (tokens.kindHere()) {
                case Word.OR:
                    return 0;
                case Word.XOR:
                    return 1;
                case Word.AND:
                case Word.AMPERSAND:
                    return 2;
                case Word.EQUAL:
                    return 3;
                case Word.UNEQUAL:
                    return 4;
                case Word.LESS:
                    return 5;
                case Word.GREATER:
                    return 6;
                case Word.AT_MOST:
                    return 7;
                case Word.AT_LEAST:
                    return 8;
                case Word.PLUS:
                    return 9;
                case Word.MINUS:
                    return 10;
                case Word.STAR:
                    return 11;
                case Word.SLASH:
                    return 12;
                case Word.MOD:
                    return 13;
                default:
                    return NONE;
            }
        }

        private void readOperand() {
            switch (tokens.kindHere()) {
                case Word.MINUS:
                case Word.NOT:
                    int one = tree.add(Node.ONE, tokens.placeHere(), tokens.isHere(Word.NOT) ? 1 : 0);
                    openHere();
                    readOperand();
                    open--;
                    tree.close(one);
                    break;
                case Word.NUMBER:
                case Word.TRUE:
                case Word.FALSE:
                    readConstant();
                    break;
                case Word.LEFT_ROUND:
                    openHere();
                    readExpression(0);
                    open--;
                    tokens.expect(Word.RIGHT_ROUND);
                    break;
                case Word.NAME:
                    if (tokens.isNext(Word.LEFT_SQUARE)) {
                        readElement(0);
                    } else if (tokens.isNext(Word.LEFT_ROUND)) {
                        readCall();
                    } else {
                        readNameOrOutput();
                    }
                    break;
                default:
                    tokens.stop();
                    break;
            }
        }

        /** A name with an index, which is an expression of this closeness. */
        private void readElement(int closeness) {
            int node = tree.add(Node.ELEMENT, tokens.placeHere(), tokens.valueHere());
            tokens.step();
            openHere();
            readExpression(closeness);
            open--;
            tokens.expect(Word.RIGHT_SQUARE);
            tree.close(node);
        }

        private void readCall() {
            int node = tree.add(Node.CALL, tokens.placeHere(), tokens.valueHere());
            tokens.step();
            openHere();
            boolean more = !tokens.isHere(Word.RIGHT_ROUND);
            for (int left = MOST_BYTES; more && left > 0; left--) {
                readExpression(0);
                more = tokens.isHere(Word.COMMA);
                if (more) {
                    tokens.step();
                }
            }
            open--;
            tokens.expect(Word.RIGHT_ROUND);
            tree.close(node);
        }

        private void readNameOrOutput() {
            int place = tokens.placeHere();
            int name = tokens.valueHere();
            tokens.expect(Word.NAME);
            if (tokens.isHere(Word.DOT)) {
                int output = tree.add(Node.OUTPUT, place, name);
                tokens.step();
                tree.add(Node.NAME, tokens.placeHere(), tokens.valueHere());
                tokens.expect(Word.NAME);
                tree.close(output);
            } else {
                tree.add(Node.NAME, place, name);
            }
        }

        private void readLadder() {
            int ladder = tree.add(Node.LADDER, tokens.placeHere(), 0);
            tokens.step();
            for (int left = MOST_BYTES; left > 0 && tokens.isHere(Word.RUNG); left--) {
                int rung = tree.add(Node.RUNG, tokens.placeHere(), 0);
                tokens.step();
                readRow();
                for (int rows = MOST_BYTES; rows > 0 && isCellHere(); rows--) {
                    readRow();
                }
                tokens.expect(Word.END_RUNG);
                tree.close(rung);
            }
            tokens.expect(Word.END_LADDER);
            tree.close(ladder);
        }

        private boolean isCellHere() {
            switch (tokens.kindHere()) {
                case Word.SLASH:
                case Word.GREATER:
                case Word.LESS:
                case Word.NAME:
                case Word.MINUS:
                case Word.STAR:
                case Word.LEFT_ROUND:
                    return true;
                default:
                    return false;
            }
        }

        private void readRow() {
            int row = tree.add(Node.ROW, tokens.placeHere(), 0);
            boolean more = true;
            for (int left = MOST_BYTES; more && left > 0; left--) {
                switch (tokens.kindHere()) {
                    case Word.MINUS:
                        tree.add(Node.WIRE, tokens.placeHere(), 0);
                        tokens.step();
                        break;
                    case Word.STAR:
                        tree.add(Node.GAP, tokens.placeHere(), 0);
                        tokens.step();
                        break;
                    case Word.LEFT_ROUND:
                        readCoil();
                        break;
                    default:
                        readContact();
                        break;
                }
                more = isCellHere();
                if (tokens.isHere(Word.BAR)) {
                    tree.add(Node.LINK, tokens.placeHere(), 0);
                    tokens.step();
                    more = true;
                }
            }
            tokens.expect(Word.SEMICOLON);
            tree.close(row);
        }

        private void readContact() {
            int node = tree.add(Node.CONTACT, tokens.placeHere(), 0);
            int mark = markHere(Word.SLASH, Word.GREATER, Word.LESS);
            tree.setValue(node, mark);
            if (mark != 0) {
                tokens.step();
            }
            readNameOrOutput();
            tree.close(node);
        }

        private void readCoil() {
            int node = tree.add(Node.COIL, tokens.placeHere(), 0);
            tokens.step();
            int mark = markHere(Word.SLASH, Word.PLUS, Word.MINUS);
            tree.setValue(node, mark);
            if (mark != 0) {
                tokens.step();
            }
            readName();
            tokens.expect(Word.RIGHT_ROUND);
            tree.close(node);
        }

        /** Which of these three marks is here, from 1 on; 0 if none is. */
        private int markHere(int first, int second, int third) {
            int kind = tokens.kindHere();
            if (kind == first) {
                return 1;
            }
            if (kind == second) {
                return 2;
            }
            return kind == third ? 3 : 0;
        }
    }

    /** The blocks, the standard ones first, and the variables of them all. */
    private static final class Blocks {
        static final int FIRST_OWN = 9;
        static final int PROGRAM_PLACES = 960;

        private static final int MOST = FIRST_OWN + MOST_TEXT_BLOCKS;
        private static final int[] STANDARD_CELLS = {6, 6, 6, 6, 6, 3, 3, 3, 3};

        private final Variables variables;
        private final int[] byName;
        private final int[] kinds;
        private final int[] frames;
        private final int[] places;
        private final int[] results;
        private final int[] inputs;
        private final int[] inputTypes;
        private int count;
        private int cellsInAll;
        private boolean hasProgram;

        Blocks() {
            variables = new Variables();
            byName = new int[Names.MOST];
            kinds = new int[MOST];
            frames = new int[MOST];
            places = new int[MOST];
            results = new int[MOST];
            inputs = new int[MOST];
            inputTypes = new int[MOST * MOST_INPUTS];
            count = 0;
            cellsInAll = 0;
            hasProgram = false;
        }

        Variables variables() {
            return variables;
        }

        /** Forgets the blocks of the text before; the new text has so many names. */
        void reset(int names) {
            for (int name = 0; name < names && name < byName.length; name++) {
                byName[name] = NONE;
            }
            count = 0;
            cellsInAll = 0;
            hasProgram = false;
            for (int i = 0; i < FIRST_OWN; i++) {
                begin(Node.FUNCTION_BLOCK, Word.COUNT + i, NONE);
                takeCells(STANDARD_CELLS[i]);
            }
            variables.reset(names);
        }

        void begin(int kind, int name, int result) {
            if (count >= MOST || name < 0 || name >= byName.length) {
                return;
            }
            byName[name] = count;
            kinds[count] = kind;
            frames[count] = 0;
            places[count] = NONE;
            results[count] = result;
            inputs[count] = 0;
            count++;
            if (kind == Node.PROGRAM) {
                hasProgram = true;
                takeCells(PROGRAM_PLACES);
            } else if (kind == Node.FUNCTION) {
                takeCells(1);
            }
        }

        /** The block that was begun last. */
        int current() {
            return count - 1;
        }

        int ownCount() {
            return Math.max(count - FIRST_OWN, 0);
        }

        boolean hasProgram() {
            return hasProgram;
        }

        int allCells() {
            return cellsInAll;
        }

        int named(int name) {
            return name >= 0 && name < byName.length ? byName[name] : NONE;
        }

        /** The block of this kind and name that ended before the current one, or NONE. */
        int namedBefore(int name, int kind) {
            int block = name >= 0 && name < byName.length ? byName[name] : NONE;
            return block >= 0 && block < count - 1 && kinds[block] == kind ? block : NONE;
        }

        int kindOf(int block) {
            return block >= 0 && block < count ? kinds[block] : NONE;
        }

        int cellsOf(int block) {
            return block >= 0 && block < count ? frames[block] : NONE;
        }

        int placeOf(int block) {
            return block >= 0 && block < count ? places[block] : NONE;
        }

        int resultOf(int block) {
            return block >= 0 && block < count ? results[block] : NONE;
        }

        int inputsOf(int block) {
            return block >= 0 && block < count ? inputs[block] : NONE;
        }

        int inputTypeOf(int block, int input) {
            boolean known = block >= 0 && block < count && input >= 0 && input < MOST_INPUTS;
            return known ? inputTypes[block * MOST_INPUTS + input] : NONE;
        }

        /** Gives the current block so many cells more, and answers the first of them. */
        int takeCells(int cells) {
            int block = count - 1;
            if (block < 0) {
                return NONE;
            }
            int first = frames[block];
            frames[block] = first + cells;
            return first;
        }

        void addInput(int type) {
            int block = count - 1;
            if (block < 0) {
                return;
            }
            // Only functions are called with inputs in order, and none with more than these is right.
            if (inputs[block] < MOST_INPUTS) {
                inputTypes[block * MOST_INPUTS + inputs[block]] = type;
            }
            inputs[block]++;
        }

        /** The program comes first, and all functions in their order behind it. */
        void lay() {
            int behind = hasProgram ? cellsOf(current()) : 0;
            for (int block = FIRST_OWN; block < count; block++) {
                if (kinds[block] == Node.PROGRAM) {
                    places[block] = 0;
                } else if (kinds[block] == Node.FUNCTION) {
                    places[block] = behind;
                    behind += frames[block];
                }
            }
            cellsInAll = behind;
        }
    }

    /** The variables of all blocks; those of one name are chained, the newest first. */
    private static final class Variables {
        private static final int PIN_ROW = 5;
        // Of each input and output of the standard blocks: block, name, section, type, cell.
        private static final int[] PINS = {
            0, 0, VAR_INPUT, BOOL, 0, 0, 1, VAR_INPUT, DINT, 1, 0, 2, VAR_OUTPUT, BOOL, 2, 0, 3, VAR_OUTPUT, DINT, 3,
            1, 0, VAR_INPUT, BOOL, 0, 1, 1, VAR_INPUT, DINT, 1, 1, 2, VAR_OUTPUT, BOOL, 2, 1, 3, VAR_OUTPUT, DINT, 3,
            2, 0, VAR_INPUT, BOOL, 0, 2, 1, VAR_INPUT, DINT, 1, 2, 2, VAR_OUTPUT, BOOL, 2, 2, 3, VAR_OUTPUT, DINT, 3,
            3, 4, VAR_INPUT, BOOL, 0, 3, 5, VAR_INPUT, BOOL, 1, 3, 6, VAR_INPUT, INT, 2,
            3, 2, VAR_OUTPUT, BOOL, 3, 3, 7, VAR_OUTPUT, INT, 4,
            4, 8, VAR_INPUT, BOOL, 0, 4, 9, VAR_INPUT, BOOL, 1, 4, 6, VAR_INPUT, INT, 2,
            4, 2, VAR_OUTPUT, BOOL, 3, 4, 7, VAR_OUTPUT, INT, 4,
            5, 10, VAR_INPUT, BOOL, 0, 5, 2, VAR_OUTPUT, BOOL, 1,
            6, 10, VAR_INPUT, BOOL, 0, 6, 2, VAR_OUTPUT, BOOL, 1,
            7, 11, VAR_INPUT, BOOL, 0, 7, 5, VAR_INPUT, BOOL, 1, 7, 12, VAR_OUTPUT, BOOL, 2,
            8, 13, VAR_INPUT, BOOL, 0, 8, 14, VAR_INPUT, BOOL, 1, 8, 12, VAR_OUTPUT, BOOL, 2
        };
        private static final int MOST = 32 + MOST_TEXT_NAMES;

        private final int[] newest;
        private final int[] older;
        private final int[] owners;
        private final int[] sections;
        private final int[] shapes;
        private final int[] types;
        private final int[] cells;
        private final boolean[] readOnly;
        private int count;

        Variables() {
            newest = new int[Names.MOST];
            older = new int[MOST];
            owners = new int[MOST];
            sections = new int[MOST];
            shapes = new int[MOST];
            types = new int[MOST];
            cells = new int[MOST];
            readOnly = new boolean[MOST];
            count = 0;
        }

        void reset(int names) {
            for (int name = 0; name < names && name < newest.length; name++) {
                newest[name] = NONE;
            }
            count = 0;
            for (int i = 0; i + PIN_ROW <= PINS.length; i += PIN_ROW) {
                int pin = declare(PINS[i], Names.FIRST_PIN + PINS[i + 1], PINS[i + 2]);
                settle(pin, Node.TYPE, PINS[i + 3], PINS[i + 4]);
            }
        }

        int size() {
            return count;
        }

        int declare(int owner, int name, int section) {
            if (count >= MOST || name < 0 || name >= newest.length) {
                return NONE;
            }
            older[count] = newest[name];
            newest[name] = count;
            owners[count] = owner;
            sections[count] = section;
            readOnly[count] = section == VAR_INPUT;
            settle(count, Node.TYPE, BOOL, 0);
            count++;
            return count - 1;
        }

        /** Says what kind of type node the variable has, its type or its instance's block, and its first cell. */
        void settle(int variable, int shape, int type, int cell) {
            if (variable >= 0 && variable < MOST) {
                shapes[variable] = shape;
                types[variable] = type;
                cells[variable] = cell;
            }
        }

        void forbidWriting(int variable) {
            if (variable >= 0 && variable < count) {
                readOnly[variable] = true;
            }
        }

        /** The variable of this block with this name, or NONE. */
        int find(int owner, int name) {
            int variable = name >= 0 && name < newest.length ? newest[name] : NONE;
            for (int left = count; left > 0 && variable >= 0 && variable < count; left--) {
                if (owners[variable] == owner) {
                    return variable;
                }
                variable = older[variable];
            }
            return NONE;
        }

        /** The variable of this block with this name in such a section, or NONE. */
        int findIn(int owner, int name, int section) {
            int variable = find(owner, name);
            return variable >= 0 && variable < count && sections[variable] == section ? variable : NONE;
        }

        int shapeOf(int variable) {
            return variable >= 0 && variable < count ? shapes[variable] : NONE;
        }

        int typeOf(int variable) {
            return variable >= 0 && variable < count ? types[variable] : NONE;
        }

        int cellOf(int variable) {
            return variable >= 0 && variable < count ? cells[variable] : NONE;
        }

        boolean isReadOnly(int variable) {
            return variable >= 0 && variable < count && readOnly[variable];
        }
    }

    /** Walks the tree and tells its first fault; itself it knows the rules of blocks and declarations. */
    private static final class Rules {
        private static final int MOST_ELEMENTS = 256;
        private static final int MOST_BLOCK_CELLS = 4096;
        private static final int MOST_CELLS_IN_ALL = 8192;
        private static final int IX = 0;
        private static final int IW = 3;
        private static final int[] FIRST_CELLS = {0, 256, 512, 768, 832, 896};

        private final Tree tree;
        private final Names names;
        private final Blocks blocks;
        private final Variables variables;
        private final Expressions expressions;
        private final Statements statements;
        private final int[] placesTaken;
        private int placeOfFault;

        Rules(Tree tree, Names names, Blocks blocks) {
            this.tree = tree;
            this.names = names;
            this.blocks = blocks;
            variables = blocks.variables();
            expressions = new Expressions(tree, blocks);
            statements = new Statements(tree, blocks);
            placesTaken = new int[Blocks.PROGRAM_PLACES];
            placeOfFault = NONE;
        }

        int placeOfFault() {
            return placeOfFault;
        }

        int firstFault() {
            blocks.reset(names.size());
            Arrays.fill(placesTaken, 0);
            int open = NONE;
            int next = 0;
            for (int step = 0; step < 2 * tree.size(); step++) {
                int node = open;
                int fault;
                if (next < tree.behind(open)) {
                    node = next;
                    next++;
                    tree.setParent(node, open);
                    open = node;
                    fault = enter(node);
                } else {
                    open = tree.parentOf(node);
                    fault = leave(node);
                }
                if (fault != FINE) {
                    placeOfFault = tree.placeAt(node);
                    return fault;
                }
            }
            return FINE;
        }

        /** Own cells are given here, as they come in the order of nodes and not of looking at them. */
        private int enter(int node) {
            switch (tree.kindAt(node)) {
                case Node.FUNCTION:
                case Node.FUNCTION_BLOCK:
                case Node.PROGRAM:
                    return enterBlock(node);
                case Node.CASE:
                    tree.setCell(node, blocks.takeCells(1));
                    return FINE;
                case Node.FOR:
                    tree.setMeaning(node, blocks.takeCells(1));
                    return FINE;
                case Node.CONTACT:
                    if (tree.valueAt(node) >= 2) {
                        tree.setCell(node, blocks.takeCells(1));
                    }
                    return FINE;
                default:
                    return FINE;
            }
        }

        private int enterBlock(int node) {
            int name = tree.valueAt(node);
            int kind = tree.kindAt(node);
            if (blocks.hasProgram()) {
                return WRONG_PROGRAM;
            }
            if (blocks.named(name) != NONE || Names.functionOf(name) != NONE) {
                return BLOCK_NAME_TAKEN;
            }
            int result = kind == Node.FUNCTION ? tree.valueAt(node + 1) : NONE;
            blocks.begin(kind, name, result);
            if (kind == Node.FUNCTION) {
                int own = variables.declare(blocks.current(), name, VAR);
                variables.settle(own, Node.TYPE, result, 0);
            }
            return FINE;
        }

        private int leave(int node) {
            int kind = tree.kindAt(node);
            switch (kind) {
                case Node.TEXT:
                    return textFault();
                case Node.FUNCTION:
                    return blocks.inputsOf(blocks.current()) > MOST_INPUTS ? TOO_MANY_INPUTS : FINE;
                case Node.SECTION:
                    return sectionFault(node);
                case Node.DECLARATION:
                    return declarationFault(node);
                case Node.NAME:
                    return nameFault(node);
                case Node.PLACE:
                    return placeFault(node);
                case Node.TYPE:
                    tree.setType(node, tree.valueAt(node));
                    return FINE;
                case Node.ARRAY:
                    return arrayFault(node);
                case Node.BLOCK_TYPE:
                    return isIn(Node.FUNCTION) || blockOf(node) == NONE ? WRONG_BLOCK_TYPE : FINE;
                default:
                    return kind >= Node.NUMBER ? expressions.faultOf(node) : statements.faultOf(node);
            }
        }

        private int textFault() {
            if (!blocks.hasProgram()) {
                return WRONG_PROGRAM;
            }
            blocks.lay();
            return blocks.allCells() > MOST_CELLS_IN_ALL ? ALL_TOO_LARGE : FINE;
        }

        private boolean isIn(int kind) {
            return blocks.kindOf(blocks.current()) == kind;
        }

        private int sectionFault(int node) {
            int section = tree.valueAt(node);
            if (isIn(Node.PROGRAM) && section != VAR || isIn(Node.FUNCTION) && section == VAR_OUTPUT) {
                return WRONG_SECTION;
            }
            return FINE;
        }

        private int nameFault(int node) {
            int parent = tree.parentOf(node);
            switch (tree.kindAt(parent)) {
                case Node.DECLARATION:
                    return declaredNameFault(node, tree.parentOf(parent));
                case Node.OUTPUT:
                    return FINE;
                default:
                    return expressions.variableFault(node);
            }
        }

        private int declaredNameFault(int node, int section) {
            int name = tree.valueAt(node);
            if (variables.find(blocks.current(), name) != NONE || blocks.named(name) != NONE
                    || Names.functionOf(name) != NONE) {
                return VARIABLE_NAME_TAKEN;
            }
            variables.declare(blocks.current(), name, tree.valueAt(section));
            return FINE;
        }

        private int placeFault(int node) {
            int namesBefore = node - tree.parentOf(node) - 1;
            int cell = placeCell(node);
            if (!isIn(Node.PROGRAM) || namesBefore > 1 || cell == NONE || placesTaken[cell] != 0) {
                return WRONG_PLACE;
            }
            placesTaken[cell] = 1;
            return FINE;
        }

        private int placeCell(int node) {
            int area = tree.valueAt(node) >> 8;
            if (area < 0 || area >= FIRST_CELLS.length) {
                return NONE;
            }
            int cell = FIRST_CELLS[area] + (tree.valueAt(node) & 255);
            return cell < placesTaken.length ? cell : NONE;
        }

        private int arrayFault(int node) {
            int first = node + 1;
            int last = node + 2;
            if (isIn(Node.FUNCTION) || tree.kindAt(first) == Node.TRUTH || tree.kindAt(last) == Node.TRUTH) {
                return WRONG_ARRAY;
            }
            long elements = elementsOf(node);
            return elements < 1 || elements > MOST_ELEMENTS ? WRONG_ARRAY : FINE;
        }

        private long elementsOf(int array) {
            return (long) tree.valueAt(array + 2) - tree.valueAt(array + 1) + 1;
        }

        /** The block of a 10, or NONE. */
        private int blockOf(int node) {
            return blocks.namedBefore(tree.valueAt(node), Node.FUNCTION_BLOCK);
        }

        private int declarationFault(int node) {
            int place = node + 1;
            int end = tree.behind(node);
            while (place < end && tree.kindAt(place) == Node.NAME) {
                place++;
            }
            int declared = place - node - 1;
            int type = place;
            if (tree.kindAt(place) == Node.PLACE) {
                type++;
            } else {
                place = NONE;
            }
            int constant = tree.behind(type);
            if (tree.valueAt(tree.parentOf(node)) != VAR && tree.kindAt(type) != Node.TYPE) {
                return NOT_SIMPLE;
            }
            if (place != NONE && !isPlaceType(place, type)) {
                return WRONG_PLACE_TYPE;
            }
            if (constant < end && (isInputPlace(place) || !isConstantFor(constant, type))) {
                return WRONG_CONSTANT;
            }
            settle(node, declared, place, type);
            return blocks.cellsOf(blocks.current()) > MOST_BLOCK_CELLS ? BLOCK_TOO_LARGE : FINE;
        }

        private boolean isPlaceType(int place, int type) {
            int due = tree.valueAt(place) >> 8 < IW ? BOOL : INT;
            return tree.kindAt(type) == Node.TYPE && tree.valueAt(type) == due;
        }

        private boolean isInputPlace(int place) {
            int area = tree.valueAt(place) >> 8;
            return place != NONE && (area == IX || area == IW);
        }

        private boolean isConstantFor(int constant, int type) {
            if (tree.kindAt(type) == Node.BLOCK_TYPE) {
                return false;
            }
            int due = simpleType(type);
            if (tree.kindAt(constant) == Node.TRUTH) {
                return due == BOOL;
            }
            return due != BOOL && Expressions.isInRange(tree.valueAt(constant), due);
        }

        /** The type of a simple variable, or of an array's elements. */
        private int simpleType(int type) {
            return tree.valueAt(tree.kindAt(type) == Node.ARRAY ? type + 3 : type);
        }

        /** Gives types and cells to the variables that this declaration's names have just declared. */
        private void settle(int node, int declared, int place, int type) {
            int shape = tree.kindAt(type);
            int meant = shape == Node.BLOCK_TYPE ? blockOf(type) : simpleType(type);
            boolean input = tree.valueAt(tree.parentOf(node)) == VAR_INPUT;
            int first = variables.size() - declared;
            for (int i = 0; i < declared; i++) {
                int cell = place != NONE ? placeCell(place) : blocks.takeCells(sizeOf(type));
                variables.settle(first + i, shape, meant, cell);
                tree.setCell(node + 1 + i, cell);
                if (isInputPlace(place)) {
                    variables.forbidWriting(first + i);
                }
                if (input) {
                    blocks.addInput(meant);
                }
            }
        }

        private int sizeOf(int type) {
            switch (tree.kindAt(type)) {
                case Node.ARRAY:
                    return (int) elementsOf(type);
                case Node.BLOCK_TYPE:
                    return blocks.cellsOf(blockOf(type));
                default:
                    return 1;
            }
        }
    }

    /** The rules and types of what stands in expressions. */
    private static final class Expressions {
        private static final int ABS = 0;
        private static final int MIN = 1;
        private static final int MAX = 2;
        private static final int LIMIT = 3;
        private static final int SEL = 4;
        private static final int SHL = 5;
        private static final int SHR = 6;
        private static final int TO_INT = 7;
        private static final int TO_DINT = 8;
        private static final int[] OPERAND_COUNTS = {1, 2, 2, 3, 3, 2, 2, 1, 1, 1};

        private final Tree tree;
        private final Blocks blocks;
        private final Variables variables;

        Expressions(Tree tree, Blocks blocks) {
            this.tree = tree;
            this.blocks = blocks;
            variables = blocks.variables();
        }

        static boolean isNumber(int type) {
            return type == INT || type == DINT;
        }

        static boolean fits(int type, int other) {
            return type == other || type == INT && other == DINT;
        }

        static boolean isInRange(int value, int type) {
            return type != INT || value >= LOWEST_INT && value <= HIGHEST_INT;
        }

        int faultOf(int node) {
            switch (tree.kindAt(node)) {
                case Node.NUMBER:
                    tree.setType(node, tree.valueAt(node) <= HIGHEST_INT ? INT : DINT);
                    return FINE;
                case Node.TRUTH:
                    tree.setType(node, BOOL);
                    return FINE;
                case Node.ELEMENT:
                    return elementFault(node);
                case Node.OUTPUT:
                    return outputFault(node);
                case Node.CALL:
                    return callFault(node);
                case Node.TWO:
                    return twoFault(node);
                case Node.ONE:
                    return oneFault(node);
                default:
                    return FINE;
            }
        }

        /** Of a 6 that names a variable. */
        int variableFault(int node) {
            int variable = variables.find(blocks.current(), tree.valueAt(node));
            if (variable == NONE) {
                return NO_VARIABLE;
            }
            if (variables.shapeOf(variable) != Node.TYPE) {
                return WRONG_SHAPE;
            }
            tree.setType(node, variables.typeOf(variable));
            tree.setCell(node, variables.cellOf(variable));
            return FINE;
        }

        private int elementFault(int node) {
            int variable = variables.find(blocks.current(), tree.valueAt(node));
            if (variable == NONE) {
                return NO_VARIABLE;
            }
            if (variables.shapeOf(variable) != Node.ARRAY) {
                return WRONG_SHAPE;
            }
            if (!isNumber(tree.typeAt(node + 1))) {
                return NO_NUMBER;
            }
            tree.setType(node, variables.typeOf(variable));
            tree.setCell(node, variables.cellOf(variable));
            return FINE;
        }

        private int outputFault(int node) {
            int variable = variables.find(blocks.current(), tree.valueAt(node));
            if (variable == NONE) {
                return NO_VARIABLE;
            }
            if (variables.shapeOf(variable) != Node.BLOCK_TYPE) {
                return WRONG_SHAPE;
            }
            int output = variables.findIn(variables.typeOf(variable), tree.valueAt(node + 1), VAR_OUTPUT);
            if (output == NONE) {
                return NO_OUTPUT;
            }
            tree.setType(node, variables.typeOf(output));
            tree.setCell(node, variables.cellOf(variable) + variables.cellOf(output));
            return FINE;
        }

        private int callFault(int node) {
            int name = tree.valueAt(node);
            int function = Names.functionOf(name);
            int block = blocks.namedBefore(name, Node.FUNCTION);
            if (function == NONE && block == NONE) {
                return NO_FUNCTION;
            }
            int due = function == NONE ? blocks.inputsOf(block) : operandCount(function);
            if (tree.childCount(node) != due) {
                return WRONG_OPERAND_COUNT;
            }
            int result = function == NONE ? ownResult(block, node) : standardResult(function, node);
            if (result == NONE) {
                return WRONG_OPERAND_TYPES;
            }
            tree.setType(node, result);
            tree.setMeaning(node, function == NONE ? block - Blocks.FIRST_OWN : STANDARD_MEANING + function);
            return FINE;
        }

        private static int operandCount(int function) {
            return function >= 0 && function < OPERAND_COUNTS.length ? OPERAND_COUNTS[function] : NONE;
        }

        /** The type that a FUNCTION gives; NONE if an operand does not fit. */
        private int ownResult(int block, int node) {
            int operand = node + 1;
            int count = blocks.inputsOf(block);
            for (int input = 0; input < count; input++) {
                if (!fits(tree.typeAt(operand), blocks.inputTypeOf(block, input))) {
                    return NONE;
                }
                operand = tree.behind(operand);
            }
            return blocks.resultOf(block);
        }

        /** The type that a standard function gives; NONE if the operands' types are wrong. */
        private int standardResult(int function, int node) {
            int end = tree.behind(node);
            int second = tree.behind(node + 1);
            int third = second < end ? tree.behind(second) : end;
            int a = tree.typeAt(node + 1);
            int b = second < end ? tree.typeAt(second) : NONE;
            int c = third < end ? tree.typeAt(third) : NONE;
            switch (function) {
                case ABS:
                    return wider(a, a);
                case MIN:
                case MAX:
                    return wider(a, b);
                case LIMIT:
                    return wider(wider(a, b), c);
                case SEL:
                    return a == BOOL ? common(b, c) : NONE;
                case SHL:
                case SHR:
                    return isNumber(a) && isNumber(b) ? a : NONE;
                case TO_INT:
                    return INT;
                case TO_DINT:
                    return DINT;
                default:
                    return isNumber(a) ? BOOL : NONE;
            }
        }

        private static int wider(int a, int b) {
            if (a < INT || b < INT) {
                return NONE;
            }
            return a >= b ? a : b;
        }

        /** BOOL of two BOOLs, the wider of two numbers, NONE of others. */
        private static int common(int a, int b) {
            return a == BOOL && b == BOOL ? BOOL : wider(a, b);
        }

        private int twoFault(int node) {
            int sign = tree.valueAt(node);
            int left = tree.typeAt(node + 1);
            int right = tree.typeAt(tree.behind(node + 1));
            int result = sign <= 4 ? common(left, right) : wider(left, right);
            if (result == NONE) {
                return WRONG_TWO_TYPES;
            }
            tree.setType(node, sign >= 3 && sign <= 8 ? BOOL : result);
            return FINE;
        }

        private int oneFault(int node) {
            int operand = tree.typeAt(node + 1);
            if (tree.valueAt(node) == 0 && !isNumber(operand)) {
                return WRONG_ONE_TYPE;
            }
            tree.setType(node, operand);
            return FINE;
        }
    }

    /** The rules of statements and rungs. */
    private static final class Statements {
        private static final int MOST_TIMES = 1000000;
        private static final int MOST_ROWS = 12;
        private static final int MOST_ROW_CELLS = 12;
        private static final int LADDER_CELLS = 156;

        private final Tree tree;
        private final Blocks blocks;
        private final Variables variables;

        Statements(Tree tree, Blocks blocks) {
            this.tree = tree;
            this.blocks = blocks;
            variables = blocks.variables();
        }

        int faultOf(int node) {
            switch (tree.kindAt(node)) {
                case Node.ASSIGNMENT:
                    return assignmentFault(node);
                case Node.INVOCATION:
                    return invocationFault(node);
                case Node.PARAMETER:
                    return parameterFault(node);
                case Node.IF:
                    return ifFault(node);
                case Node.CASE:
                    return Expressions.isNumber(tree.typeAt(node + 1)) ? FINE : WRONG_CONDITION;
                case Node.RANGE:
                    return rangeFault(node);
                case Node.FOR:
                    return forFault(node);
                case Node.EXIT:
                    return tree.isInLoop(node, NONE) ? FINE : EXIT_OUTSIDE;
                case Node.LADDER:
                    blocks.takeCells(LADDER_CELLS);
                    return FINE;
                case Node.RUNG:
                    return rungFault(node);
                case Node.CONTACT:
                    return tree.typeAt(node + 1) == BOOL ? FINE : CELL_NOT_BOOL;
                case Node.COIL:
                    return coilFault(node);
                case Node.LINK:
                    return linkFault(node);
                default:
                    return FINE;
            }
        }

        private int find(int name) {
            return variables.find(blocks.current(), name);
        }

        /** Whether the node may assign to the variable of this name. */
        private int assignedFault(int node, int name) {
            if (variables.isReadOnly(find(name))) {
                return READ_ONLY;
            }
            return tree.isInLoop(node, name) ? LOOP_NAME_ASSIGNED : FINE;
        }

        private int assignmentFault(int node) {
            int target = node + 1;
            int fault = assignedFault(node, tree.valueAt(target));
            if (fault != FINE) {
                return fault;
            }
            int given = tree.typeAt(tree.behind(target));
            return Expressions.fits(given, tree.typeAt(target)) ? FINE : DOES_NOT_FIT;
        }

        private int invocationFault(int node) {
            int variable = find(tree.valueAt(node));
            if (variable == NONE) {
                return NO_VARIABLE;
            }
            if (variables.shapeOf(variable) != Node.BLOCK_TYPE) {
                return WRONG_SHAPE;
            }
            int block = variables.typeOf(variable);
            boolean own = block >= Blocks.FIRST_OWN;
            tree.setCell(node, variables.cellOf(variable));
            tree.setMeaning(node, own ? block - Blocks.FIRST_OWN : STANDARD_MEANING + block);
            return FINE;
        }

        private int parameterFault(int node) {
            int invocation = tree.parentOf(node);
            int instance = find(tree.valueAt(invocation));
            // What is no instance is told at the invocation itself, behind its parameters.
            if (variables.shapeOf(instance) != Node.BLOCK_TYPE) {
                return FINE;
            }
            int name = tree.valueAt(node);
            int input = variables.findIn(variables.typeOf(instance), name, VAR_INPUT);
            if (input == NONE) {
                return NO_INPUT;
            }
            for (int before = invocation + 1; before < node; before = tree.behind(before)) {
                if (tree.valueAt(before) == name) {
                    return INPUT_TWICE;
                }
            }
            tree.setCell(node, variables.cellOf(instance) + variables.cellOf(input));
            return Expressions.fits(tree.typeAt(node + 1), variables.typeOf(input)) ? FINE : DOES_NOT_FIT;
        }

        private int ifFault(int node) {
            int end = tree.behind(node);
            for (int child = node + 1; child < end; child = tree.behind(child)) {
                if (tree.kindAt(child) != Node.BODY && tree.typeAt(child) != BOOL) {
                    return WRONG_CONDITION;
                }
            }
            return FINE;
        }

        private int rangeFault(int node) {
            int first = node + 1;
            int last = tree.behind(node) - 1;
            if (tree.kindAt(first) == Node.TRUTH || tree.kindAt(last) == Node.TRUTH) {
                return WRONG_RANGE;
            }
            return tree.valueAt(first) > tree.valueAt(last) ? WRONG_RANGE : FINE;
        }

        private int forFault(int node) {
            int name = tree.valueAt(node);
            int variable = find(name);
            if (variable == NONE) {
                return NO_VARIABLE;
            }
            if (variables.shapeOf(variable) != Node.TYPE) {
                return WRONG_SHAPE;
            }
            int type = variables.typeOf(variable);
            if (!Expressions.isNumber(type)) {
                return NO_NUMBER;
            }
            int fault = assignedFault(node, name);
            if (fault != FINE) {
                return fault;
            }
            tree.setCell(node, variables.cellOf(variable));
            return areLoopConstants(node, type) ? FINE : WRONG_LOOP;
        }

        private boolean areLoopConstants(int node, int type) {
            int body = node + 1;
            int end = tree.behind(node);
            while (body < end && tree.kindAt(body) != Node.BODY) {
                if (tree.kindAt(body) == Node.TRUTH || !Expressions.isInRange(tree.valueAt(body), type)) {
                    return false;
                }
                body++;
            }
            int step = body - node > 3 ? tree.valueAt(node + 3) : 1;
            return step != 0 && times(tree.valueAt(node + 1), tree.valueAt(node + 2), step) <= MOST_TIMES;
        }

        private static long times(long first, long last, long step) {
            if (step == 0 || step > 0 && first > last || step < 0 && first < last) {
                return 0;
            }
            return (last - first) / step + 1;
        }

        private int rungFault(int node) {
            int rows = 0;
            int width = NONE;
            int end = tree.behind(node);
            for (int row = node + 1; row < end; row = tree.behind(row)) {
                int cells = cellsIn(row);
                if (width == NONE) {
                    width = cells;
                }
                if (cells != width || cells > MOST_ROW_CELLS) {
                    return WRONG_RUNG;
                }
                rows++;
            }
            return rows > MOST_ROWS ? WRONG_RUNG : FINE;
        }

        private int cellsIn(int row) {
            int cells = 0;
            int end = tree.behind(row);
            for (int child = row + 1; child < end; child = tree.behind(child)) {
                if (tree.kindAt(child) != Node.LINK) {
                    cells++;
                }
            }
            return cells;
        }

        private int coilFault(int node) {
            if (tree.behind(node) != tree.behind(tree.parentOf(node))) {
                return COIL_NOT_LAST;
            }
            if (tree.typeAt(node + 1) != BOOL) {
                return CELL_NOT_BOOL;
            }
            return assignedFault(node, tree.valueAt(node + 1));
        }

        private int linkFault(int node) {
            int row = tree.parentOf(node);
            return tree.behind(row) == tree.behind(tree.parentOf(row)) ? LINK_IN_LAST_ROW : FINE;
        }
    }
}

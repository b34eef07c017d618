/** CELLS and promises 5 to 12: each sentence with a boundary, on both sides of it. */
public final class AnswerSentencesTest {
    private static final int NONE = TypeRules.NONE;
    private static final int LAST_KIND = 36;
    private static final int[] STRANGE = {-1, -2, -1000, 1000000, Integer.MIN_VALUE, Integer.MIN_VALUE + 1,
        Integer.MAX_VALUE - 1, Integer.MAX_VALUE};
    /** A right text with nodes of every kind. */
    private static final String ALL_KINDS = "FUNCTION f : INT VAR_INPUT i : INT; END_VAR f := i; END_FUNCTION"
        + " FUNCTION_BLOCK g VAR_INPUT s : BOOL; END_VAR VAR_OUTPUT o : BOOL; END_VAR LADDER RUNG s | >s - * (o);"
        + " - - - - (/o); END_RUNG END_LADDER END_FUNCTION_BLOCK"
        + " PROGRAM p VAR x AT %QW5 : INT; b : BOOL := TRUE; a : ARRAY [1 .. 2] OF INT; u : g; END_VAR"
        + " u(s := NOT b); b := u.o; IF b THEN RETURN; END_IF; CASE x OF 1 .. 2 : a[x] := f(x + 1); END_CASE;"
        + " FOR x := 1 TO 2 DO EXIT; END_FOR; END_PROGRAM";
    /** A text for each fault, which stands at the mark. */
    private static final String[] FAULTY = {
        "1 PROGRAM p ^#", "2 PROGRAM p ^(*", "3 PROGRAM ^nnnnnnnnnnnnnnnnnnnnnnnnnnnnnnnnn", "4 PROGRAM ^1x",
        "5 PROGRAM ^%", "6 PROGRAM ^1", "7 *",
        "10 PROGRAM p END_PROGRAM ^PROGRAM q END_PROGRAM", "11 ^PROGRAM TON END_PROGRAM",
        "12 PROGRAM p VAR ^p : INT; END_VAR END_PROGRAM", "13 PROGRAM p ^VAR_INPUT END_VAR END_PROGRAM",
        "14 PROGRAM p VAR x, y AT ^%IX1 : BOOL; END_VAR END_PROGRAM", "15 PROGRAM p VAR ^x AT %IX1 : INT; END_VAR END_PROGRAM",
        "16 PROGRAM p VAR x : ^ARRAY [2 .. 1] OF INT; END_VAR END_PROGRAM", "17 PROGRAM p VAR x : ^y; END_VAR END_PROGRAM",
        "18 PROGRAM p VAR ^x : BOOL := 1; END_VAR END_PROGRAM",
        "19 PROGRAM p VAR ^a, b, c, d, e, f, g, h, i, j, k, l, m : ARRAY [1 .. 256] OF BOOL; END_VAR END_PROGRAM",
        "20 PROGRAM p ^x := 1; END_PROGRAM", "21 PROGRAM p VAR x : TON; END_VAR ^x := 1; END_PROGRAM",
        "22 PROGRAM p VAR x : ARRAY [1 .. 2] OF INT; END_VAR ^x[TRUE] := 1; END_PROGRAM",
        "23 PROGRAM p VAR x : TON; y : BOOL; END_VAR y := ^x.z; END_PROGRAM",
        "24 PROGRAM p VAR x : INT; END_VAR x := ^z(); END_PROGRAM", "25 PROGRAM p VAR x : INT; END_VAR x := ^ABS(); END_PROGRAM",
        "26 PROGRAM p VAR x : INT; END_VAR x := ^ABS(TRUE); END_PROGRAM",
        "27 PROGRAM p VAR x : INT; END_VAR x := 1 ^+ TRUE; END_PROGRAM",
        "28 PROGRAM p VAR x : INT; END_VAR x := ^-TRUE; END_PROGRAM",
        "29 PROGRAM p VAR x AT %IX1 : BOOL; END_VAR x ^:= TRUE; END_PROGRAM",
        "30 PROGRAM p VAR x : INT; END_VAR FOR x := 1 TO 2 DO x ^:= 1; END_FOR; END_PROGRAM",
        "31 PROGRAM p VAR x : INT; END_VAR x ^:= TRUE; END_PROGRAM", "32 PROGRAM p VAR x : TON; END_VAR x(^z := 1); END_PROGRAM",
        "33 PROGRAM p VAR x : TON; END_VAR x(PT := 1, ^PT := 1); END_PROGRAM", "34 PROGRAM p ^IF 1 THEN END_IF; END_PROGRAM",
        "35 PROGRAM p CASE 1 OF ^TRUE : END_CASE; END_PROGRAM",
        "36 PROGRAM p VAR x : INT; END_VAR ^FOR x := 1 TO 2 BY 0 DO END_FOR; END_PROGRAM", "37 PROGRAM p ^EXIT; END_PROGRAM",
        "38 PROGRAM p LADDER ^RUNG -; --; END_RUNG END_LADDER END_PROGRAM",
        "39 PROGRAM p VAR x : BOOL; END_VAR LADDER RUNG ^(x) -; END_RUNG END_LADDER END_PROGRAM",
        "40 PROGRAM p LADDER RUNG - ^| -; END_RUNG END_LADDER END_PROGRAM",
        "41 PROGRAM p VAR x : INT; END_VAR LADDER RUNG ^x; END_RUNG END_LADDER END_PROGRAM", "42 *",
        "43 FUNCTION_BLOCK f VAR_INPUT ^x : TON; END_VAR END_FUNCTION_BLOCK",
        "44 ^FUNCTION f : INT VAR_INPUT a, b, c, d, e, g, h, i, j : INT; END_VAR END_FUNCTION"};

    public static void main(String[] args) {
        everyFault();
        nothingAtHandAtFirst();
        judgingAgain();
        countsOfARightText();
        countOfAnotherNumber();
        nodesFromFirstToLast();
        answersByKind();
        typesOfNames();
        blocksFromFirstToLast();
        placesOfBlocks();
        cellsOfPlaces();
        cellsInOrder();
        cellsOfInstances();
        cellsOfPins();
        ownCells();
        meaningsFromFirstToLast();
        Check.finish("AnswerSentencesTest");
    }

    private static String faulty(int fault, String told) {
        if (fault == 7) {
            return "PROGRAM p " + Check.repeat("CASE 1 OF 1 : ", 60) + "^CASE";
        }
        if (fault == 42) {
            StringBuilder functions = new StringBuilder("^ ");
            for (int i = 0; i < 26; i++) {
                functions.append("FUNCTION g").append((char) ('a' + i)).append(":INT LADDER END_LADDER END_FUNCTION ");
            }
            return functions + "PROGRAM p VAR " + Check.names(0, 12) + ":ARRAY[1..256]OF BOOL;END_VAR LADDER END_LADDER"
                + " END_PROGRAM";
        }
        return told.substring(told.indexOf(' ') + 1);
    }

    private static void nothingIsAtHand(TypeRules rules, String when) {
        for (int which = 2; which <= 4; which++) {
            Check.is("count(" + which + ") " + when, rules.count(which), 0);
        }
        for (int i = -1; i <= 4; i++) {
            Check.is("kind(" + i + ") " + when, rules.kind(i), NONE);
            Check.is("type(" + i + ") " + when, rules.type(i), NONE);
            Check.is("cell(" + i + ") " + when, rules.cell(i), NONE);
            Check.is("meaning(" + i + ") " + when, rules.meaning(i), NONE);
            Check.is("frame(" + i + ") " + when, rules.frame(i), NONE);
            Check.is("place(" + i + ") " + when, rules.place(i), NONE);
        }
    }

    private static void everyFault() {
        Check.sentence("Promise 5: or the first fault: 1 to 7 of reading, 10 to 44 of rules; nothing is at hand then.");
        int due = 0;
        for (String told : FAULTY) {
            int fault = Integer.parseInt(told.substring(0, told.indexOf(' ')));
            due = due == 7 ? 10 : due + 1;
            Check.is("number of a fault", fault, due);
            String marked = faulty(fault, told);
            int place = marked.indexOf('^');
            String text = marked.substring(0, place) + marked.substring(place + 1);
            TypeRules rules = Check.right("FUNCTION f : INT f := 1; END_FUNCTION PROGRAM p VAR x : INT; END_VAR CASE x OF"
                + " END_CASE; END_PROGRAM");
            rules.clear();
            Check.write(rules, text);
            Check.is("judge() of fault " + fault, rules.judge(), fault);
            Check.is("count(0) of fault " + fault, rules.count(0), fault);
            Check.is("count(1) of fault " + fault, rules.count(1), place);
            nothingIsAtHand(rules, "behind fault " + fault);
            rules.clear();
            Check.write(rules, "PROGRAM p END_PROGRAM");
            Check.is("judge() of a right text behind fault " + fault, rules.judge(), 0);
            Check.is("count(0) of it", rules.count(0), 0);
            Check.is("count(1) of it", rules.count(1), NONE);
            Check.is("count(2) of it", rules.count(2), 3);
            Check.is("kind(1) of it", rules.kind(1), 3);
        }
        Check.is("the last fault", due, 44);
    }

    private static void nothingAtHandAtFirst() {
        Check.sentence("Promise 6: 0 the fault of the last judge() (0 without), 1 its place (NONE without)");
        TypeRules rules = new TypeRules();
        Check.is("count(0) before", rules.count(0), 0);
        Check.is("count(1) before", rules.count(1), NONE);
        nothingIsAtHand(rules, "before judge()");
        Check.write(rules, "PROGRAM p END_PROGRAM");
        Check.is("count(0) before judge()", rules.count(0), 0);
        Check.is("count(1) before judge()", rules.count(1), NONE);
        nothingIsAtHand(rules, "before judge()");
        rules.judge();
        Check.is("count(0) of a right text", rules.count(0), 0);
        Check.is("count(1) of a right text", rules.count(1), NONE);
        Check.write(rules, "#");
        Check.is("count(0) before the next", rules.count(0), 0);
        rules.judge();
        Check.is("count(0) of the next", rules.count(0), 1);
        Check.is("count(1) of the next", rules.count(1), 21);
    }

    private static void judgingAgain() {
        Check.sentence("Promise 5: The text is judged: 0, and it is at hand then");
        TypeRules rules = Check.right(ALL_KINDS);
        int nodes = rules.count(2);
        for (int i = 0; i < 5; i++) {
            Check.is("judge() again", rules.judge(), 0);
            Check.is("count(2) again", rules.count(2), nodes);
            Check.is("count(3) again", rules.count(3), 3);
        }
        // What is fed later is no part of it.
        Check.write(rules, " FUNCTION");
        Check.is("count(2) while fed", rules.count(2), nodes);
        Check.is("judge() of more", rules.judge(), 6);
        Check.is("count(2) of more", rules.count(2), 0);
        Check.is("clear()", rules.clear(), ALL_KINDS.length() + 9);
    }

    private static void countsOfARightText() {
        Check.sentence("Promise 6: 2 how many nodes there are .., 3 how many blocks .., 4 all cells: .. the PROGRAM and of all FUNCTIONS");
        for (int functions = 0; functions <= 5; functions++) {
            for (int blocks = 0; blocks <= 3; blocks++) {
                StringBuilder text = new StringBuilder();
                for (int i = 0; i < functions; i++) {
                    text.append("FUNCTION f").append(i).append(" : INT END_FUNCTION ");
                }
                for (int i = 0; i < blocks; i++) {
                    text.append("FUNCTION_BLOCK g").append(i).append(" VAR x : INT; END_VAR END_FUNCTION_BLOCK ");
                }
                TypeRules rules = Check.right(text + "PROGRAM p END_PROGRAM");
                Check.is("count(2)", rules.count(2), 3 + 3 * functions + 6 * blocks);
                Check.is("count(3)", rules.count(3), 1 + functions + blocks);
                Check.is("count(4)", rules.count(4), 960 + functions);
            }
        }
        // As many blocks as the text can have: each of 24 bytes or more.
        StringBuilder many = new StringBuilder();
        int functions = 0;
        while (many.length() < 8192 - 21 - 30) {
            many.append("FUNCTION ").append(Check.names(functions, 1)).append(":INT END_FUNCTION ");
            functions++;
        }
        TypeRules rules = Check.right(many + "PROGRAM p END_PROGRAM");
        Check.is("count(3) of many", rules.count(3), functions + 1);
        Check.is("place of the last function", rules.place(functions - 1), 960 + functions - 1);
        Check.is("frame of the program", rules.frame(functions), 960);
        Check.is("frame behind it", rules.frame(functions + 1), NONE);
    }

    private static void countOfAnotherNumber() {
        Check.sentence("Promise 6: NONE: another number.");
        TypeRules rules = Check.right(ALL_KINDS);
        Check.is("count(-1)", rules.count(-1), NONE);
        Check.is("count(0)", rules.count(0), 0);
        Check.is("count(4)", rules.count(4), 960 + 1 + 2 + 159 + 2 + 2);
        Check.is("count(5)", rules.count(5), NONE);
        for (int which : STRANGE) {
            Check.is("count(" + which + ")", rules.count(which), NONE);
        }
    }

    private static void nodesFromFirstToLast() {
        Check.sentence("Promise 7 to 10: NONE: there is none such");
        TypeRules rules = Check.right("PROGRAM p VAR x : INT; END_VAR FOR x := 1 TO 2 DO END_FOR; x := ABS(x); END_PROGRAM");
        int last = rules.count(2) - 1;
        Check.is("nodes", last, 14);
        Check.is("kind of the first", rules.kind(0), 0);
        Check.is("kind of the last", rules.kind(last), 6);
        Check.is("type of the last", rules.type(last), 1);
        Check.is("cell of the last", rules.cell(last), 960);
        Check.is("meaning of the last but one", rules.meaning(last - 1), 100);
        for (int i = last + 1; i <= last + 40; i++) {
            none(rules, i);
        }
        for (int i : STRANGE) {
            none(rules, i);
        }
        none(rules, 16385);
        none(rules, 16386);
        none(rules, 8192);
        // The last of the densest text, and none behind it.
        String head = "PROGRAM p CASE 1 OF ";
        String tail = "END_CASE;END_PROGRAM";
        int choices = (8192 - head.length() - tail.length()) / 2;
        TypeRules dense = Check.right(head + Check.repeat("1:", choices) + tail);
        Check.is("count(2) of the densest", dense.count(2), 5 + 4 * choices);
        Check.is("kind of its last", dense.kind(4 + 4 * choices), 11);
        Check.is("type of its last number", dense.type(3 + 4 * choices), 1);
        none(dense, 5 + 4 * choices);
        // Nodes of a longer text before are gone.
        dense.clear();
        Check.write(dense, "PROGRAM p END_PROGRAM");
        dense.judge();
        Check.is("kind(2) behind the densest", dense.kind(2), 11);
        none(dense, 3);
        none(dense, 4 + 4 * choices);
    }

    private static void none(TypeRules rules, int node) {
        Check.is("kind(" + node + ")", rules.kind(node), NONE);
        Check.is("type(" + node + ")", rules.type(node), NONE);
        Check.is("cell(" + node + ")", rules.cell(node), NONE);
        Check.is("meaning(" + node + ")", rules.meaning(node), NONE);
    }

    private static boolean isAmong(int kind, String kinds) {
        return (" " + kinds + " ").contains(" " + kind + " ");
    }

    private static void answersByKind() {
        Check.sentence("Promises 8 to 10: NONE: all others");
        TypeRules rules = Check.right(ALL_KINDS);
        for (int kind = 0; kind <= LAST_KIND; kind++) {
            int node = Check.node(rules, kind, 0);
            Check.is("a node of kind " + kind, node >= 0 ? 1 : 0, 1);
        }
        for (int i = 0; i < rules.count(2); i++) {
            int kind = rules.kind(i);
            if (kind != 6) {
                boolean typed = isAmong(kind, "8 30 31 32 33 34 35 36");
                Check.is("whether kind " + kind + " has a type", rules.type(i) != NONE ? 1 : 0, typed ? 1 : 0);
            }
            // Of contacts the first has no cell, the second one.
            if (kind != 6 && kind != 25) {
                boolean celled = isAmong(kind, "13 14 16 19 32 33");
                Check.is("whether kind " + kind + " has a cell", rules.cell(i) != NONE ? 1 : 0, celled ? 1 : 0);
            }
            boolean meant = isAmong(kind, "13 19 34");
            Check.is("whether kind " + kind + " has a meaning", rules.meaning(i) != NONE ? 1 : 0, meant ? 1 : 0);
        }
    }

    private static void typesOfNames() {
        Check.sentence("Promise 8: 6 that is a variable, in statements, rungs. Promise 9: NONE: .. (also 6 in 33)");
        TypeRules rules = Check.right("FUNCTION_BLOCK g VAR o : BOOL; d : DINT; t : TON; END_VAR LADDER RUNG o /t.Q (o); END_RUNG"
            + " END_LADDER END_FUNCTION_BLOCK PROGRAM p VAR o, d : DINT; t : TON; END_VAR d := t.ET + o; END_PROGRAM");
        // The names: o, d, t; then o, Q, o in the rung; o, d, t; then d, ET, o in the statement.
        int[] types = {NONE, NONE, NONE, 0, NONE, 0, NONE, NONE, NONE, 2, NONE, 2};
        int[] cells = {0, 1, 2, 0, NONE, 0, 960, 961, 962, 961, NONE, 960};
        for (int i = 0; i < types.length; i++) {
            int node = Check.node(rules, 6, i);
            Check.is("type of name " + i, rules.type(node), types[i]);
            Check.is("cell of name " + i, rules.cell(node), cells[i]);
        }
        Check.is("no other name", Check.node(rules, 6, types.length), NONE);
        Check.is("cell of t.Q", rules.cell(Check.node(rules, 33, 0)), 2 + 2);
        Check.is("type of t.Q", rules.type(Check.node(rules, 33, 0)), 0);
        Check.is("cell of t.ET", rules.cell(Check.node(rules, 33, 1)), 962 + 3);
        Check.is("type of t.ET", rules.type(Check.node(rules, 33, 1)), 2);
        TypeRules types8 = Check.right("PROGRAM p VAR x : BOOL; y : INT; z : DINT; END_VAR END_PROGRAM");
        for (int i = 0; i < 3; i++) {
            Check.is("type of 8", types8.type(Check.node(types8, 8, i)), i);
        }
    }

    private static void blocksFromFirstToLast() {
        Check.sentence("Promise 11: How many cells a block has. NONE: no such block.");
        TypeRules rules = Check.right(ALL_KINDS);
        int[] frames = {2, 2 + 1 + 156, 960 + 1 + 2 + 159 + 2};
        for (int i = 0; i < 3; i++) {
            Check.is("frame(" + i + ")", rules.frame(i), frames[i]);
        }
        for (int i = 3; i <= 20; i++) {
            Check.is("frame(" + i + ")", rules.frame(i), NONE);
            Check.is("place(" + i + ")", rules.place(i), NONE);
        }
        for (int i : STRANGE) {
            Check.is("frame(" + i + ")", rules.frame(i), NONE);
            Check.is("place(" + i + ")", rules.place(i), NONE);
        }
        // Standard blocks are none of the text's.
        TypeRules one = Check.right("PROGRAM p VAR t : TON; END_VAR END_PROGRAM");
        Check.is("frame(0) of one", one.frame(0), 966);
        for (int i = -10; i < 0; i++) {
            Check.is("frame(" + i + ")", one.frame(i), NONE);
            Check.is("place(" + i + ")", one.place(i), NONE);
        }
        Check.is("frame(1) of one", one.frame(1), NONE);
        Check.is("place(1) of one", one.place(1), NONE);
    }

    private static void placesOfBlocks() {
        Check.sentence("Promise 12: The place of a block: of the PROGRAM 0; NONE of a FUNCTION_BLOCK");
        TypeRules rules = Check.right("FUNCTION_BLOCK a VAR x : TON; END_VAR END_FUNCTION_BLOCK FUNCTION b : INT VAR x : INT;"
            + " END_VAR END_FUNCTION FUNCTION_BLOCK c VAR y : a; END_VAR END_FUNCTION_BLOCK FUNCTION d : INT LADDER END_LADDER"
            + " END_FUNCTION FUNCTION e : DINT END_FUNCTION PROGRAM p VAR z : c; END_VAR END_PROGRAM");
        int[] frames = {6, 2, 6, 157, 1, 966};
        int[] places = {NONE, 966, NONE, 968, 968 + 157, 0};
        for (int i = 0; i < frames.length; i++) {
            Check.is("frame(" + i + ")", rules.frame(i), frames[i]);
            Check.is("place(" + i + ")", rules.place(i), places[i]);
        }
        Check.is("count(4)", rules.count(4), 966 + 2 + 157 + 1);
    }

    private static void cellsOfPlaces() {
        Check.sentence("CELLS: of a PROGRAM first 960: 256 IX, 256 QX, 256 MX, 64 IW, 64 QW, 64 MW, in this order");
        String[] areas = "IX QX MX IW QW MW".split(" ");
        int[] firsts = {0, 256, 512, 768, 832, 896};
        for (int k = 0; k < 6; k++) {
            int most = k < 3 ? 255 : 63;
            String type = k < 3 ? "BOOL" : "INT";
            for (int n : new int[] {0, 1, 7, most - 1, most}) {
                TypeRules rules = Check.right("PROGRAM p VAR v : DINT; x AT %" + areas[k] + n + " : " + type + "; w : DINT; END_VAR"
                    + " CASE TO_INT(x) OF END_CASE; END_PROGRAM");
                Check.is("cell at %" + areas[k] + n, rules.cell(Check.node(rules, 6, 1)), firsts[k] + n);
                Check.is("cell of it in a statement", rules.cell(Check.node(rules, 6, 3)), firsts[k] + n);
                Check.is("cell of the one before", rules.cell(Check.node(rules, 6, 0)), 960);
                Check.is("cell of the one behind", rules.cell(Check.node(rules, 6, 2)), 961);
                Check.is("cell of the CASE", rules.cell(Check.node(rules, 16, 0)), 962);
                Check.is("frame(0)", rules.frame(0), 963);
            }
        }
        Check.is("frame without variables", Check.right("PROGRAM p END_PROGRAM").frame(0), 960);
    }

    private static void cellsInOrder() {
        Check.sentence("CELLS: variables in their order: a simple one has 1, an array one for each element, an instance as many");
        int[] sizes = {1, 2, 17, 256};
        for (int size : sizes) {
            TypeRules rules = Check.right("FUNCTION_BLOCK g VAR u : BOOL; a, c : ARRAY [-1 .. " + (size - 2) + "] OF DINT; v : INT;"
                + " END_VAR VAR_INPUT i : INT; END_VAR VAR_OUTPUT o : INT; END_VAR a[0] := c[1]; END_FUNCTION_BLOCK"
                + " PROGRAM p VAR m, n : g; w : BOOL; END_VAR END_PROGRAM");
            int[] cells = {0, 1, 1 + size, 1 + 2 * size, 2 + 2 * size, 3 + 2 * size};
            for (int i = 0; i < cells.length; i++) {
                Check.is("cell of variable " + i, rules.cell(Check.node(rules, 6, i)), cells[i]);
            }
            int frame = 4 + 2 * size;
            Check.is("cell of a", rules.cell(Check.node(rules, 32, 0)), 1);
            Check.is("cell of c", rules.cell(Check.node(rules, 32, 1)), 1 + size);
            Check.is("frame of g", rules.frame(0), frame);
            Check.is("cell of m", rules.cell(Check.node(rules, 6, 6)), 960);
            Check.is("cell of n", rules.cell(Check.node(rules, 6, 7)), 960 + frame);
            Check.is("cell of w", rules.cell(Check.node(rules, 6, 8)), 960 + 2 * frame);
            Check.is("frame of p", rules.frame(1), 961 + 2 * frame);
        }
        TypeRules rules = Check.right("FUNCTION f : INT VAR_INPUT i, j : INT; END_VAR VAR k : DINT; END_VAR f := i; END_FUNCTION"
            + " PROGRAM p END_PROGRAM");
        for (int i = 0; i < 3; i++) {
            Check.is("cell of variable " + i + " of a function", rules.cell(Check.node(rules, 6, i)), 1 + i);
        }
        Check.is("cell of a function's own name", rules.cell(Check.node(rules, 6, 3)), 0);
        Check.is("frame of f", rules.frame(0), 4);
    }

    private static void cellsOfInstances() {
        Check.sentence("CELLS: an instance as many as its block (TON to CTD 6, R_TRIG to RS 3)");
        String[] blocks = "TON TOF TP CTU CTD R_TRIG F_TRIG SR RS".split(" ");
        for (int k = 0; k < blocks.length; k++) {
            int size = k < 5 ? 6 : 3;
            TypeRules rules = Check.right("PROGRAM p VAR m, n : " + blocks[k] + "; w : BOOL; END_VAR m(); n(); END_PROGRAM");
            Check.is("cell of m", rules.cell(Check.node(rules, 6, 0)), 960);
            Check.is("cell of n", rules.cell(Check.node(rules, 6, 1)), 960 + size);
            Check.is("cell of w", rules.cell(Check.node(rules, 6, 2)), 960 + 2 * size);
            Check.is("cell of m()", rules.cell(Check.node(rules, 13, 0)), 960);
            Check.is("cell of n()", rules.cell(Check.node(rules, 13, 1)), 960 + size);
            Check.is("frame(0)", rules.frame(0), 961 + 2 * size);
            Check.is("meaning of m()", rules.meaning(Check.node(rules, 13, 0)), 100 + k);
        }
    }

    private static void cellsOfPins() {
        Check.sentence("CELLS: Inputs and outputs of standard blocks have cells of the instance");
        String[] pins = {"TON IN 0 PT 1 / Q 2 ET 3", "TOF IN 0 PT 1 / Q 2 ET 3", "TP IN 0 PT 1 / Q 2 ET 3",
            "CTU CU 0 R 1 PV 2 / Q 3 CV 4", "CTD CD 0 LD 1 PV 2 / Q 3 CV 4", "R_TRIG CLK 0 / Q 1", "F_TRIG CLK 0 / Q 1",
            "SR S1 0 R 1 / Q1 2", "RS S 0 R1 1 / Q1 2"};
        for (String told : pins) {
            String block = told.substring(0, told.indexOf(' '));
            String[] inputs = told.substring(block.length() + 1, told.indexOf(" /")).split(" ");
            for (int i = 0; i < inputs.length; i += 2) {
                pin(block, inputs[i], false, Integer.parseInt(inputs[i + 1]));
            }
            String[] outputs = told.substring(told.indexOf("/ ") + 2).split(" ");
            for (int i = 0; i < outputs.length; i += 2) {
                pin(block, outputs[i], true, Integer.parseInt(outputs[i + 1]));
            }
        }
        // Of a block of the text they are its variables.
        TypeRules rules = Check.right("FUNCTION_BLOCK g VAR h : TON; END_VAR VAR_INPUT i, j : INT; END_VAR VAR_OUTPUT o : INT;"
            + " END_VAR END_FUNCTION_BLOCK PROGRAM p VAR x : INT; m, n : g; END_VAR n(j := 1, i := n.o); m(i := m.o); END_PROGRAM");
        int[] inputs = {961 + 9 + 7, 961 + 9 + 6, 961 + 6};
        for (int i = 0; i < 3; i++) {
            Check.is("cell of parameter " + i, rules.cell(Check.node(rules, 14, i)), inputs[i]);
        }
        Check.is("cell of n.o", rules.cell(Check.node(rules, 33, 0)), 961 + 9 + 8);
        Check.is("cell of m.o", rules.cell(Check.node(rules, 33, 1)), 961 + 8);
    }

    private static void pin(String block, String pin, boolean output, int cell) {
        boolean truth = !"PT PV ET CV".contains(pin);
        String head = "PROGRAM p VAR b : BOOL; d : DINT; n : " + block + "; END_VAR ";
        String reads = (truth ? "b" : "d") + " := ^n." + pin + ";";
        String writes = "n(^" + pin + " := " + (truth ? "b" : "1") + ");";
        TypeRules rules = Check.right(head + (output ? reads : writes).replace("^", "") + " END_PROGRAM");
        Check.is(block + "." + pin, rules.cell(Check.node(rules, output ? 33 : 14, 0)), 962 + cell);
        // An input can't be read, nor an output be given.
        Check.refused(output ? 32 : 23, head + (output ? writes : reads) + " END_PROGRAM");
    }

    private static void ownCells() {
        Check.sentence("CELLS: Then 1 for each 16 and 19 in their order, then 1 for each 25 of value 2 and 3 .., then 156");
        for (int n = 0; n <= 3; n++) {
            TypeRules rules = Check.right("PROGRAM p VAR x : INT; END_VAR " + Check.repeat("CASE x OF 1 : FOR x := 1 TO 2 DO END_FOR;"
                + " END_CASE; IF TRUE THEN END_IF; ", n) + "END_PROGRAM");
            Check.is("frame with " + n, rules.frame(0), 961 + 2 * n);
            for (int i = 0; i < n; i++) {
                Check.is("cell of CASE " + i, rules.cell(Check.node(rules, 16, i)), 961 + 2 * i);
                Check.is("meaning of CASE " + i, rules.meaning(Check.node(rules, 16, i)), NONE);
                Check.is("meaning of FOR " + i, rules.meaning(Check.node(rules, 19, i)), 962 + 2 * i);
                Check.is("cell of FOR " + i, rules.cell(Check.node(rules, 19, i)), 960);
            }
        }
        String[] marks = {"", "/", ">", "<"};
        for (int first = 0; first < 4; first++) {
            for (int second = 0; second < 4; second++) {
                TypeRules rules = Check.right("PROGRAM p VAR b : BOOL; END_VAR LADDER RUNG " + marks[first] + "b (b); END_RUNG RUNG "
                    + marks[second] + "b; END_RUNG END_LADDER END_PROGRAM");
                int own = first >= 2 ? 1 : 0;
                Check.is("cell of " + marks[first] + "b", rules.cell(Check.node(rules, 25, 0)), first >= 2 ? 961 : NONE);
                Check.is("cell of " + marks[second] + "b", rules.cell(Check.node(rules, 25, 1)), second >= 2 ? 961 + own : NONE);
                Check.is("frame", rules.frame(0), 961 + own + (second >= 2 ? 1 : 0) + 156);
            }
        }
        Check.is("frame of an empty ladder", Check.right("PROGRAM p LADDER END_LADDER END_PROGRAM").frame(0), 960 + 156);
        Check.is("frame of no ladder", Check.right("PROGRAM p ; END_PROGRAM").frame(0), 960);
    }

    private static void meaningsFromFirstToLast() {
        Check.sentence("Promise 10: of a 34 of a FUNCTION, that one's number among blocks, of a standard function 100 and more ..");
        String[] calls = {"ABS(1)", "MIN(1,1)", "MAX(1,1)", "LIMIT(1,1,1)", "SEL(TRUE,1,1)", "SHL(1,1)", "SHR(1,1)", "TO_INT(1)",
            "TO_DINT(1)", "TO_INT(TO_BOOL(1))"};
        for (int i = 0; i < 10; i++) {
            TypeRules rules = Check.right("PROGRAM p VAR d : DINT; END_VAR d := " + calls[i] + "; END_PROGRAM");
            Check.is("meaning of " + calls[i], rules.meaning(Check.node(rules, 34, i == 9 ? 1 : 0)), 100 + i);
        }
        StringBuilder blocks = new StringBuilder();
        StringBuilder variables = new StringBuilder();
        StringBuilder body = new StringBuilder();
        // More than a hundred blocks, so that some number among blocks is above 99.
        int count = 110;
        for (int i = 0; i < count; i++) {
            String name = Check.names(i, 1);
            if (i % 2 == 0) {
                blocks.append("FUNCTION ").append(name).append(":INT END_FUNCTION ");
                body.append("d:=").append(name).append("();");
            } else {
                blocks.append("FUNCTION_BLOCK ").append(name).append(" END_FUNCTION_BLOCK ");
                variables.append("i").append(i).append(":").append(name).append(";");
                body.append("i").append(i).append("();");
            }
        }
        TypeRules rules = Check.right(blocks + "PROGRAM p VAR d:DINT;" + variables + "END_VAR " + body + " END_PROGRAM");
        for (int i = 0; i < count; i++) {
            int node = Check.node(rules, i % 2 == 0 ? 34 : 13, i / 2);
            Check.is("meaning of block " + i, rules.meaning(node), i);
        }
        // A block without cells gives its instances none.
        Check.is("frame of an empty block", rules.frame(1), 0);
        Check.is("frame of the program", rules.frame(count), 961);
    }
}

/** Promises 6 to 12: count, kind, type, cell, meaning, frame, place. */
public final class AnswersTest {
    private static final int NONE = TypeRules.NONE;
    private static final String FUNCTION = "FUNCTION f : DINT VAR_INPUT a : INT; END_VAR VAR c : DINT; END_VAR"
        + " f := a + c; END_FUNCTION ";
    private static final String BLOCK = "FUNCTION_BLOCK fb VAR_INPUT s : BOOL; END_VAR VAR w : ARRAY [1 .. 5] OF INT;"
        + " i : INT; END_VAR VAR_OUTPUT o : INT; END_VAR FOR i := 1 TO 5 DO w[i] := 0; END_FOR; END_FUNCTION_BLOCK ";

    public static void main(String[] args) {
        counts();
        beyond();
        declarations();
        statements();
        expressions();
        ladder();
        typesOfNumbers();
        standardCells();
        standardMeanings();
        ownCells();
        framesAndPlaces();
        nothingAtHand();
        Check.finish("AnswersTest");
    }

    private static String list(TypeRules rules, char what) {
        StringBuilder all = new StringBuilder();
        for (int i = 0; i < rules.count(2); i++) {
            int answer = what == 'k' ? rules.kind(i) : what == 't' ? rules.type(i)
                : what == 'c' ? rules.cell(i) : rules.meaning(i);
            all.append(i == 0 ? "" : " ").append(answer == NONE ? "." : Integer.toString(answer));
        }
        return all.toString();
    }

    private static void listIs(TypeRules rules, char what, String due) {
        String got = list(rules, what);
        if (!got.equals(due)) {
            System.out.println("got " + got + "\ndue " + due);
        }
        Check.is("list of " + what, got.equals(due) ? 1 : 0, 1);
    }

    private static void counts() {
        TypeRules rules = Check.right(FUNCTION + BLOCK + "PROGRAM p END_PROGRAM");
        Check.is("count(0)", rules.count(0), 0);
        Check.is("count(1)", rules.count(1), NONE);
        Check.is("count(2)", rules.count(2), 47);
        Check.is("count(3)", rules.count(3), 3);
        Check.is("count(4)", rules.count(4), 963);
        Check.is("count(-1)", rules.count(-1), NONE);
        Check.is("count(5)", rules.count(5), NONE);
        Check.is("count(MIN)", rules.count(Integer.MIN_VALUE), NONE);
        Check.is("count(MAX)", rules.count(Integer.MAX_VALUE), NONE);
    }

    private static void beyond() {
        TypeRules rules = Check.right("PROGRAM p VAR x : BOOL; END_VAR x := x; END_PROGRAM");
        int nodes = rules.count(2);
        Check.is("nodes", nodes, 10);
        for (int node : new int[] {-1, nodes, nodes + 1, 16384, 100000, Integer.MIN_VALUE, Integer.MAX_VALUE}) {
            Check.is("kind(" + node + ")", rules.kind(node), NONE);
            Check.is("type(" + node + ")", rules.type(node), NONE);
            Check.is("cell(" + node + ")", rules.cell(node), NONE);
            Check.is("meaning(" + node + ")", rules.meaning(node), NONE);
        }
        for (int block : new int[] {-1, 1, 2, 9, 1000, Integer.MIN_VALUE, Integer.MAX_VALUE}) {
            Check.is("frame(" + block + ")", rules.frame(block), NONE);
            Check.is("place(" + block + ")", rules.place(block), NONE);
        }
        // A longer text before leaves nothing behind.
        rules.clear();
        Check.write(rules, "PROGRAM p END_PROGRAM");
        rules.judge();
        Check.is("nodes of the shorter one", rules.count(2), 3);
        Check.is("kind(3) of the shorter one", rules.kind(3), NONE);
    }

    private static void declarations() {
        TypeRules rules = Check.right("FUNCTION f : BOOL END_FUNCTION FUNCTION_BLOCK g VAR_OUTPUT a, b : INT := 3; END_VAR"
            + " VAR END_VAR LADDER END_LADDER END_FUNCTION_BLOCK PROGRAM p VAR x AT %IW5 : INT; y : ARRAY [-1 .. 1]"
            + " OF BOOL := TRUE; u, v : g; z : DINT := 40000; END_VAR ; END_PROGRAM");
        listIs(rules, 'k', "0 1 8 11 2 4 5 6 6 8 30 4 22 3 4 5 6 7 8 5 6 9 30 30 8 31 5 6 6 10 5 6 8 30 11");
        listIs(rules, 't', ". . 0 . . . . . . 1 1 . . . . . . . 1 . . . 1 1 0 0 . . . . . . 2 2 .");
        listIs(rules, 'c', ". . . . . . . 0 1 . . . . . . . 773 . . . 960 . . . . . . 963 1121 . . 1279 . . .");
        listIs(rules, 'm', Check.repeat(". ", 34) + ".");
        Check.is("frame(0)", rules.frame(0), 1);
        Check.is("frame(1)", rules.frame(1), 158);
        Check.is("frame(2)", rules.frame(2), 1280);
    }

    private static void statements() {
        TypeRules rules = Check.right(FUNCTION + BLOCK + "PROGRAM p VAR x : INT; t : CTU; u : fb; d : DINT;"
            + " k : ARRAY [0 .. 1] OF BOOL; END_VAR"
            + " k[x] := TRUE;"
            + " u(s := u.o > 1); t(PV := x, CU := k[0]); t();"
            + " IF k[1] THEN ; ELSIF TRUE THEN RETURN; ELSE d := f(x); END_IF;"
            + " CASE d OF 1, 2 .. 3 : d := 4; ELSE END_CASE;"
            + " FOR x := 5 TO 1 BY -1 DO EXIT; END_FOR; END_PROGRAM");
        listIs(rules, 'k', "0 1 8 4 5 6 8 4 5 6 8 11 12 6 35 6 6"
            + " 2 4 5 6 8 4 5 6 9 30 30 8 5 6 8 4 5 6 8 11 19 30 30 11 12 32 6 30"
            + " 3 4 5 6 8 5 6 10 5 6 10 5 6 8 5 6 9 30 30 8 11"
            + " 12 32 6 31 13 14 35 33 6 30 13 14 6 14 32 30 13"
            + " 15 32 30 11 31 11 21 11 12 6 34 6"
            + " 16 6 17 18 30 18 30 30 11 12 6 30 11"
            + " 19 30 30 30 11 20");
        listIs(rules, 't', ". . 2 . . . 1 . . . 2 . . 2 2 1 2"
            + " . . . . 0 . . . . 1 1 1 . . 1 . . . 1 . . 1 1 . . 1 1 1"
            + " . . . . 1 . . . . . . . . 2 . . . 1 1 0 ."
            + " . 0 1 0 . . 0 1 . 1 . . 1 . 0 1 ."
            + " . 0 1 . 0 . . . . 2 2 1"
            + " . 2 . . 1 . 1 1 . . 2 1 ."
            + " . 1 1 1 . .");
        // In fb: s 0, w 1 to 5, i 6, o 7, its FOR 8. In the program: x 960, t 961, u 967, d 976, k 977, CASE 979, FOR 980.
        listIs(rules, 'c', ". . . . . 1 . . . 2 . . . 0 . 1 2"
            + " . . . 0 . . . 1 . . . . . 6 . . . 7 . . 6 . . . . 1 6 ."
            + " . . . 960 . . 961 . . 967 . . 976 . . 977 . . . . ."
            + " . 977 960 . 967 967 . 974 . . 961 963 960 961 977 . 961"
            + " . 977 . . . . . . . 976 . 960"
            + " 979 976 . . . . . . . . 976 . ."
            + " 960 . . . . .");
        listIs(rules, 'm', Check.repeat(". ", 17)
            + Check.repeat(". ", 20) + "8 . . . . . . ."
            + Check.repeat(" .", 21)
            + " . . . . 1 . . . . . 103 . . . . . 103"
            + " . . . . . . . . . . 0 ."
            + Check.repeat(" .", 13)
            + " 980 . . . . .");
        Check.is("frame(0)", rules.frame(0), 3);
        Check.is("frame(1)", rules.frame(1), 9);
        Check.is("frame(2)", rules.frame(2), 981);
    }

    private static void expressions() {
        TypeRules rules = Check.right("PROGRAM p VAR x : INT; d : DINT; b : BOOL; END_VAR"
            + " b := (x + 1) * -x - 3 MOD d < ABS(d) AND NOT b XOR TRUE OR (b = b); END_PROGRAM");
        listIs(rules, 'k', "0 3 4 5 6 8 5 6 8 5 6 8 11 12 6 35 35 35 35 35 35 35 6 30 36 6 35 30 6 34 6 36 6 31 35 6 6");
        listIs(rules, 't', ". . . . . 1 . . 2 . . 0 . . 0 0 0 0 0 2 1 1 1 1 1 1 2 1 2 2 2 0 0 0 0 0 0");
        listIs(rules, 'c', ". . . . 960 . . 961 . . 962 . . . 962 . . . . . . . 960 . . 960 . . 961 . 961 . 962 . . 962 962");
        Check.is("meaning of ABS", rules.meaning(29), 100);
        rules = Check.right("PROGRAM p VAR x : INT; END_VAR x := 1 - 2 - 3; x := 1 - (2 - 3); END_PROGRAM");
        listIs(rules, 'k', "0 3 4 5 6 8 11 12 6 35 35 30 30 30 12 6 35 30 35 30 30");
    }

    private static void ladder() {
        TypeRules rules = Check.right("PROGRAM p VAR b, c : BOOL; t : TON; END_VAR LADDER"
            + " RUNG b | /c - * >t.Q (b); <c - - | - - (/c); /t.Q * * - > b (+b); END_RUNG RUNG <b; END_RUNG"
            + " END_LADDER END_PROGRAM");
        listIs(rules, 'k', "0 3 4 5 6 6 8 5 6 10 22"
            + " 23 24 25 6 29 25 6 26 27 25 33 6 28 6"
            + " 24 25 6 26 26 29 26 26 28 6"
            + " 24 25 33 6 27 27 26 25 6 28 6"
            + " 23 24 25 6");
        listIs(rules, 't', ". . . . . . 0 . . . ."
            + " . . . 0 . . 0 . . . 0 . . 0"
            + " . . 0 . . . . . . 0"
            + " . . 0 . . . . . 0 . 0"
            + " . . . 0");
        listIs(rules, 'c', ". . . . 960 961 . . 962 . ."
            + " . . . 960 . . 961 . . 968 964 . . 960"
            + " . 969 961 . . . . . . 961"
            + " . . 964 . . . . 970 960 . 960"
            + " . . 971 960");
        listIs(rules, 'm', Check.repeat(". ", 49) + ".");
        Check.is("nodes of the ladder", rules.count(2), 50);
        Check.is("frame(0)", rules.frame(0), 960 + 2 + 6 + 4 + 156);
    }

    private static void typesOfNumbers() {
        TypeRules rules = Check.right("PROGRAM p VAR d : DINT := 32767; e : DINT := 32768; f : DINT := -32768;"
            + " g : DINT := -40000; h : DINT := -2147483647; END_VAR d := 32767; d := 32768; d := 2147483647; d := T#33s;"
            + " d := -32769; d := -2; END_PROGRAM");
        int[] due = {1, 2, 1, 1, 1, 1, 2, 2, 2, 2, 1};
        for (int i = 0; i < due.length; i++) {
            Check.is("type of number " + i, rules.type(Check.node(rules, 30, i)), due[i]);
        }
        Check.is("type of -32769", rules.type(Check.node(rules, 36, 0)), 2);
        Check.is("type of -2", rules.type(Check.node(rules, 36, 1)), 1);
    }

    private static void standardCells() {
        String[] blocks = {"TON", "TOF", "TP", "CTU", "CTD", "R_TRIG", "F_TRIG", "SR", "RS"};
        String[] inputs = {"IN PT", "IN PT", "IN PT", "CU R PV", "CD LD PV", "CLK", "CLK", "S1 R", "S R1"};
        String[] types = {"0 2", "0 2", "0 2", "0 0 1", "0 0 1", "0", "0", "0 0", "0 0"};
        String[] outputs = {"Q ET", "Q ET", "Q ET", "Q CV", "Q CV", "Q", "Q", "Q1", "Q1"};
        String[] outputTypes = {"0 2", "0 2", "0 2", "0 1", "0 1", "0", "0", "0", "0"};
        int[][] outputCells = {{2, 3}, {2, 3}, {2, 3}, {3, 4}, {3, 4}, {1}, {1}, {2}, {2}};
        int[] sizes = {6, 6, 6, 6, 6, 3, 3, 3, 3};
        String[] values = {"TRUE", "1", "32768"};
        String[] targets = {"b", "i", "d"};
        for (int k = 0; k < blocks.length; k++) {
            StringBuilder body = new StringBuilder();
            String[] names = inputs[k].split(" ");
            String[] kinds = types[k].split(" ");
            for (int j = 0; j < names.length; j++) {
                body.append(" m(").append(names[j]).append(":=").append(values[kinds[j].charAt(0) - '0']).append(");");
            }
            String[] outs = outputs[k].split(" ");
            String[] outKinds = outputTypes[k].split(" ");
            for (int j = 0; j < outs.length; j++) {
                body.append(targets[outKinds[j].charAt(0) - '0']).append(" := m.").append(outs[j]).append(";");
            }
            TypeRules rules = Check.right("PROGRAM p VAR b : BOOL; i : INT; d : DINT; m : " + blocks[k]
                + "; END_VAR " + body + " END_PROGRAM");
            Check.is("frame with " + blocks[k], rules.frame(0), 963 + sizes[k]);
            for (int j = 0; j < names.length; j++) {
                Check.is(blocks[k] + "." + names[j], rules.cell(Check.node(rules, 14, j)), 963 + j);
                Check.is(blocks[k], rules.cell(Check.node(rules, 13, j)), 963);
                Check.is(blocks[k] + "'s meaning", rules.meaning(Check.node(rules, 13, j)), 100 + k);
            }
            for (int j = 0; j < outs.length; j++) {
                int output = Check.node(rules, 33, j);
                Check.is(blocks[k] + "." + outs[j], rules.cell(output), 963 + outputCells[k][j]);
                Check.is(blocks[k] + "." + outs[j] + "'s type", rules.type(output), outKinds[j].charAt(0) - '0');
                Check.is("type of its name", rules.type(output + 1), NONE);
                Check.is("cell of its name", rules.cell(output + 1), NONE);
            }
        }
    }

    private static void standardMeanings() {
        String calls = "ABS(1) MIN(1,1) MAX(1,1) LIMIT(1,1,1) SEL(TRUE,1,1) SHL(1,1) SHR(1,1) TO_INT(1) TO_DINT(1)"
            + " TO_BOOL(1)";
        StringBuilder body = new StringBuilder();
        for (String call : calls.split(" ")) {
            body.append(call.equals("TO_BOOL(1)") ? "b" : "d").append(" := ").append(call).append(";");
        }
        TypeRules rules = Check.right(BLOCK + FUNCTION + "FUNCTION g : BOOL END_FUNCTION PROGRAM p VAR d : DINT; b : BOOL;"
            + " u : fb; END_VAR " + body + " d := f(1); b := g(); u(); END_PROGRAM");
        int[] types = {1, 1, 1, 1, 1, 1, 1, 1, 2, 0};
        for (int i = 0; i < 10; i++) {
            int call = Check.node(rules, 34, i);
            Check.is("meaning of function " + i, rules.meaning(call), 100 + i);
            Check.is("type of function " + i, rules.type(call), types[i]);
            Check.is("cell of function " + i, rules.cell(call), NONE);
        }
        Check.is("meaning of f", rules.meaning(Check.node(rules, 34, 10)), 1);
        Check.is("type of f", rules.type(Check.node(rules, 34, 10)), 2);
        Check.is("meaning of g", rules.meaning(Check.node(rules, 34, 11)), 2);
        Check.is("meaning of u", rules.meaning(Check.node(rules, 13, 0)), 0);
    }

    private static void ownCells() {
        TypeRules rules = Check.right("FUNCTION f : INT VAR i, j : INT; END_VAR FOR i := 1 TO 2 DO CASE i OF 1 : FOR j := 1"
            + " TO 2 DO END_FOR; END_CASE; END_FOR; CASE i OF END_CASE; END_FUNCTION PROGRAM p END_PROGRAM");
        Check.is("first FOR", rules.meaning(Check.node(rules, 19, 0)), 3);
        Check.is("CASE in it", rules.cell(Check.node(rules, 16, 0)), 4);
        Check.is("FOR in that", rules.meaning(Check.node(rules, 19, 1)), 5);
        Check.is("last CASE", rules.cell(Check.node(rules, 16, 1)), 6);
        Check.is("name of the first FOR", rules.cell(Check.node(rules, 19, 0)), 1);
        Check.is("name of the second FOR", rules.cell(Check.node(rules, 19, 1)), 2);
        Check.is("meaning of a CASE", rules.meaning(Check.node(rules, 16, 0)), NONE);
        Check.is("frame(0)", rules.frame(0), 7);
        rules = Check.right("PROGRAM p VAR a AT %IX255 : BOOL; b AT %QX0 : BOOL; c AT %MX1 : BOOL; d AT %IW2 : INT;"
            + " e AT %QW3 : INT; f AT %MW63 : INT; g : INT; END_VAR END_PROGRAM");
        int[] cells = {255, 256, 513, 770, 835, 959, 960};
        for (int i = 0; i < cells.length; i++) {
            Check.is("cell at a place", rules.cell(Check.node(rules, 6, i)), cells[i]);
        }
        Check.is("frame with places", rules.frame(0), 961);
        // An instance has the cells that its block has behind its variables, too.
        rules = Check.right("FUNCTION_BLOCK g VAR_OUTPUT o : BOOL; END_VAR VAR b : BOOL; END_VAR LADDER RUNG >b <b (o);"
            + " END_RUNG END_LADDER END_FUNCTION_BLOCK FUNCTION_BLOCK h VAR k : INT; n, m : g; b : BOOL; END_VAR"
            + " b := m.o; END_FUNCTION_BLOCK PROGRAM p VAR n : h; x : INT; END_VAR END_PROGRAM");
        Check.is("frame(0)", rules.frame(0), 160);
        Check.is("frame(1)", rules.frame(1), 322);
        Check.is("cell of m.o", rules.cell(Check.node(rules, 33, 0)), 161);
        Check.is("frame(2)", rules.frame(2), 960 + 322 + 1);
    }

    private static void framesAndPlaces() {
        TypeRules rules = Check.right("FUNCTION a : INT VAR x : INT; END_VAR END_FUNCTION FUNCTION_BLOCK b VAR x : TON;"
            + " END_VAR END_FUNCTION_BLOCK FUNCTION c : INT LADDER END_LADDER END_FUNCTION FUNCTION d : BOOL END_FUNCTION"
            + " PROGRAM p VAR y : b; END_VAR CASE 1 OF END_CASE; END_PROGRAM");
        int[] frames = {2, 6, 157, 1, 967};
        int[] places = {967, NONE, 969, 1126, 0};
        for (int i = 0; i < 5; i++) {
            Check.is("frame(" + i + ")", rules.frame(i), frames[i]);
            Check.is("place(" + i + ")", rules.place(i), places[i]);
        }
        Check.is("count(3)", rules.count(3), 5);
        Check.is("count(4)", rules.count(4), 1127);
        Check.is("frame(5)", rules.frame(5), NONE);
        Check.is("place(5)", rules.place(5), NONE);
    }

    private static void nothingAtHand() {
        TypeRules rules = Check.right(FUNCTION + "PROGRAM p END_PROGRAM");
        Check.write(rules, " x");
        Check.is("still at hand", rules.kind(0), 0);
        Check.is("judge()", rules.judge(), 6);
        for (int which = 2; which <= 4; which++) {
            Check.is("count(" + which + ") behind a fault", rules.count(which), 0);
        }
        Check.is("kind(0) behind a fault", rules.kind(0), NONE);
        Check.is("type(2) behind a fault", rules.type(2), NONE);
        Check.is("cell(5) behind a fault", rules.cell(5), NONE);
        Check.is("meaning(5) behind a fault", rules.meaning(5), NONE);
        Check.is("frame(0) behind a fault", rules.frame(0), NONE);
        Check.is("place(1) behind a fault", rules.place(1), NONE);
        rules.clear();
        Check.write(rules, FUNCTION + "PROGRAM f END_PROGRAM");
        Check.is("judge() by rules", rules.judge(), 11);
        Check.is("count(2) behind a rule", rules.count(2), 0);
        Check.is("kind(0) behind a rule", rules.kind(0), NONE);
        Check.is("place(0) behind a rule", rules.place(0), NONE);
        rules.clear();
        Check.write(rules, FUNCTION + "PROGRAM p END_PROGRAM");
        Check.is("judge() of the right one", rules.judge(), 0);
        Check.is("count(1) of the right one", rules.count(1), NONE);
        Check.is("place(0) of the right one", rules.place(0), 960);
    }
}

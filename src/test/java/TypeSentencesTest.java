/** RULES of types: every operand with every type, and the number of operands on both sides. */
public final class TypeSentencesTest {
    private static final int NONE = TypeRules.NONE;
    private static final int BOOL = 0;
    private static final int INT = 1;
    private static final int DINT = 2;
    private static final String[] NAMES = {"b", "x", "d"};
    private static final String[] TYPES = {"BOOL", "INT", "DINT"};
    private static final String[] FUNCTIONS = "ABS MIN MAX LIMIT SEL SHL SHR TO_INT TO_DINT TO_BOOL".split(" ");
    private static final int[] OPERANDS = {1, 2, 2, 3, 3, 2, 2, 1, 1, 1};
    private static final String[] SIGNS = {"OR", "XOR", "AND", "&", "=", "<>", "<", ">", "<=", ">=", "+", "-", "*", "/",
        "MOD"};
    private static final String HEAD = "PROGRAM p VAR b : BOOL; x : INT; d : DINT; ab : ARRAY [0 .. 3] OF BOOL;"
        + " ax : ARRAY [0 .. 3] OF INT; ad : ARRAY [0 .. 3] OF DINT; t : TON; c : CTU; END_VAR ";
    private static final String TAIL = " END_PROGRAM";

    public static void main(String[] args) {
        numbers();
        negativeConstants();
        indices();
        numberOfOperands();
        numberOfInputs();
        inputsOfManyFunctions();
        standardTypes();
        ownTypes();
        typesOfTwo();
        typesOfOne();
        assignments();
        parameters();
        conditions();
        loopNames();
        contactsAndCoils();
        Check.finish("TypeSentencesTest");
    }

    private static void judged(int fault, String marked) {
        if (fault == 0) {
            Check.right(HEAD + marked.replace("^", "") + TAIL);
        } else {
            Check.refused(fault, HEAD + marked + TAIL);
        }
    }

    private static boolean isNumber(int type) {
        return type == INT || type == DINT;
    }

    private static boolean fits(int type, int other) {
        return type == other || type == INT && other == DINT;
    }

    private static int wider(int a, int b) {
        return !isNumber(a) || !isNumber(b) ? NONE : a == DINT || b == DINT ? DINT : INT;
    }

    private static int alike(int a, int b) {
        return a == BOOL && b == BOOL ? BOOL : wider(a, b);
    }

    /** The expression has this type where the mark is, or the fault. */
    private static void typed(int type, int fault, int kind, String marked) {
        if (type == NONE) {
            Check.refused(fault, HEAD + "d := " + marked + ";" + TAIL);
            return;
        }
        String expression = marked.replace("^", "");
        TypeRules rules = Check.right(HEAD + NAMES[type] + " := " + expression + ";" + TAIL);
        Check.is("type of " + expression, rules.type(Check.node(rules, kind, 0)), type);
        for (int target = BOOL; target <= DINT; target++) {
            if (!fits(type, target)) {
                Check.refused(31, HEAD + NAMES[target] + " ^:= " + expression + ";" + TAIL);
            }
        }
    }

    private static void numbers() {
        Check.sentence("30: INT up to 32,767 .., else DINT. 31: BOOL.");
        for (long n : new long[] {0, 1, 255, 256, 32766, 32767, 32768, 32769, 65535, 65536, 98304, 2147483646, 2147483647}) {
            int type = n <= 32767 ? INT : DINT;
            for (String number : new String[] {Long.toString(n), "16#" + Long.toHexString(n), "2#" + Long.toBinaryString(n),
                "T#" + n + "ms", "00" + n}) {
                TypeRules rules = Check.right(HEAD + "d := " + number + ";" + TAIL);
                Check.is("type of " + number, rules.type(Check.node(rules, 30, 6)), type);
                judged(type == INT ? 0 : 31, "x ^:= " + number + ";");
                judged(31, "b ^:= " + number + ";");
            }
        }
        judged(0, "d := T#32s; x := T#32s;");
        judged(31, "x ^:= T#33s;");
        judged(0, "b := TRUE; b := FALSE;");
        judged(31, "x ^:= TRUE;");
        judged(31, "d ^:= FALSE;");
        // The sign before an operand leaves it its type.
        judged(0, "x := -32767;");
        judged(31, "x ^:= -32768;");
    }

    private static void negativeConstants() {
        Check.sentence("30: INT up to 32,767 (below 0, too), wherever they stand (also in declarations)");
        long[] numbers = {-2147483647, -32769, -32768, -32767, -1, 0, 32767, 32768, 2147483647};
        for (long n : numbers) {
            TypeRules rules = Check.right("PROGRAM p VAR d : DINT := " + n + "; END_VAR CASE d OF " + n + " : END_CASE; FOR d := "
                + n + " TO " + n + " BY 1 DO END_FOR; END_PROGRAM");
            for (int i = 0; i < 4; i++) {
                Check.is("type of the constant " + n, rules.type(Check.node(rules, 30, i)), n <= 32767 ? INT : DINT);
            }
        }
        TypeRules rules = Check.right("PROGRAM p VAR b : BOOL := TRUE; a : ARRAY [32767 .. 32768] OF BOOL; END_VAR"
            + " END_PROGRAM");
        Check.is("type of TRUE in a declaration", rules.type(Check.node(rules, 31, 0)), BOOL);
        Check.is("type of a first index", rules.type(Check.node(rules, 30, 0)), INT);
        Check.is("type of a last index", rules.type(Check.node(rules, 30, 1)), DINT);
    }

    private static void indices() {
        Check.sentence("32: 22: the index is no number. Its type is that of the elements.");
        for (int element = BOOL; element <= DINT; element++) {
            for (int index = BOOL; index <= DINT; index++) {
                int type = index == BOOL ? NONE : element;
                typed(type, 22, 32, "^a" + NAMES[element] + "[" + NAMES[index] + "]");
                judged(index == BOOL ? 22 : 0, "^a" + NAMES[element] + "[" + NAMES[index] + "] := "
                    + (element == BOOL ? "b;" : "1;"));
            }
        }
    }

    private static void numberOfOperands() {
        Check.sentence("34: 25: another number of expressions than: ABS, TO_INT, TO_DINT, TO_BOOL 1, .. 2, LIMIT SEL 3");
        for (int i = 0; i < FUNCTIONS.length; i++) {
            StringBuilder list = new StringBuilder();
            for (int n = 0; n <= 5; n++) {
                boolean truth = i == 4 && n == 1;
                list.append(n == 0 ? "" : n == 1 ? truth ? "b" : "x" : ", x");
                String call = "^" + FUNCTIONS[i] + "(" + list + ");";
                judged(n == OPERANDS[i] ? 0 : 25, (i == 9 ? "b := " : "d := ") + call);
            }
        }
    }

    private static void numberOfInputs() {
        Check.sentence("34: 25: another number of expressions than: .. a FUNCTION its inputs");
        for (int inputs = 0; inputs <= 8; inputs++) {
            String function = "FUNCTION f : INT " + (inputs == 0 ? "" : "VAR_INPUT " + Check.names(0, inputs) + " : INT; END_VAR ")
                + "VAR k : INT; END_VAR END_FUNCTION ";
            for (int n = 0; n <= 10; n++) {
                String list = n == 0 ? "" : Check.repeat("1, ", n - 1) + "1";
                String text = function + "PROGRAM p VAR x : INT; END_VAR x := ^f(" + list + "); END_PROGRAM";
                if (n == inputs) {
                    Check.right(text.replace("^", ""));
                } else {
                    Check.refused(25, text);
                }
            }
        }
    }

    private static void inputsOfManyFunctions() {
        Check.sentence("34: 25, 26: a FUNCTION its inputs, of as many functions as a text has room for");
        StringBuilder functions = new StringBuilder();
        int count = 108;
        for (int i = 0; i < count; i++) {
            functions.append("FUNCTION ").append(Check.names(i, 1)).append(":INT VAR_INPUT a,b,c,d,e,f,g:INT;h:BOOL;END_VAR ")
                .append("END_FUNCTION ");
        }
        String head = functions + "PROGRAM p VAR x:INT;END_VAR x:=^";
        for (int i = 0; i < count; i++) {
            String name = Check.names(i, 1);
            Check.right((head + name + "(1,1,1,1,1,1,1,TRUE);END_PROGRAM").replace("^", ""));
            if (i % 10 == 9) {
                Check.refused(26, head + name + "(1,1,1,1,1,1,1,1);END_PROGRAM");
                Check.refused(26, head + name + "(TRUE,1,1,1,1,1,1,TRUE);END_PROGRAM");
                Check.refused(25, head + name + "(1,1,1,1,1,1,1);END_PROGRAM");
                Check.refused(25, head + name + "(1,1,1,1,1,1,1,TRUE,1);END_PROGRAM");
            }
        }
    }

    private static int resultOf(int function, int a, int b, int c) {
        switch (FUNCTIONS[function]) {
            case "ABS": return isNumber(a) ? a : NONE;
            case "MIN": return wider(a, b);
            case "MAX": return wider(a, b);
            case "LIMIT": return wider(wider(a, b), c);
            case "SEL": return a == BOOL ? alike(b, c) : NONE;
            case "SHL": return isNumber(a) && isNumber(b) ? a : NONE;
            case "SHR": return isNumber(a) && isNumber(b) ? a : NONE;
            case "TO_INT": return INT;
            case "TO_DINT": return DINT;
            default: return isNumber(a) ? BOOL : NONE;
        }
    }

    private static void standardTypes() {
        Check.sentence("34: 26: types: ABS, MIN, MAX, LIMIT want numbers .. TO_INT, TO_DINT anything, giving that");
        for (int i = 0; i < FUNCTIONS.length; i++) {
            int last = OPERANDS[i];
            for (int a = 0; a < 3; a++) {
                for (int b = 0; b < (last > 1 ? 3 : 1); b++) {
                    for (int c = 0; c < (last > 2 ? 3 : 1); c++) {
                        String list = NAMES[a] + (last > 1 ? "," + NAMES[b] : "") + (last > 2 ? "," + NAMES[c] : "");
                        typed(resultOf(i, a, b, c), 26, 34, "^" + FUNCTIONS[i] + "(" + list + ")");
                    }
                }
            }
        }
    }

    private static void ownTypes() {
        Check.sentence("34: 26: .. a FUNCTION what fits its inputs in order, giving its type");
        for (int result = 0; result < 3; result++) {
            for (int types = 0; types < 81; types++) {
                int first = types % 3;
                int second = types / 3 % 3;
                int a = types / 9 % 3;
                int b = types / 27;
                String text = "FUNCTION f : " + TYPES[result] + " VAR_INPUT i : " + TYPES[first] + "; END_VAR VAR k : BOOL; END_VAR"
                    + " VAR_INPUT j : " + TYPES[second] + "; END_VAR END_FUNCTION PROGRAM p VAR b : BOOL; x : INT; d : DINT;"
                    + " END_VAR " + NAMES[result] + " := ^f(" + NAMES[a] + ", " + NAMES[b] + "); END_PROGRAM";
                if (fits(a, first) && fits(b, second)) {
                    TypeRules rules = Check.right(text.replace("^", ""));
                    Check.is("type of a call", rules.type(Check.node(rules, 34, 0)), result);
                } else {
                    Check.refused(26, text);
                }
            }
        }
        // The eighth input is looked at as the first is.
        String eight = "FUNCTION f : INT VAR_INPUT " + Check.names(0, 7) + " : INT; l : BOOL; END_VAR END_FUNCTION PROGRAM p"
            + " VAR x : INT; END_VAR x := ";
        Check.right(eight + "f(1, 1, 1, 1, 1, 1, 1, TRUE); END_PROGRAM");
        Check.refused(26, eight + "^f(1, 1, 1, 1, 1, 1, 1, 1); END_PROGRAM");
        Check.refused(26, eight + "^f(TRUE, 1, 1, 1, 1, 1, 1, TRUE); END_PROGRAM");
        Check.refused(26, eight + "^f(1, 1, 1, 1, 1, 1, TRUE, TRUE); END_PROGRAM");
    }

    private static void typesOfTwo() {
        Check.sentence("35: 27: 0 to 2 want two BOOLs ..; 3, 4 the same ..; 5 to 8 two numbers ..; 9 to 13 two numbers");
        for (int i = 0; i < SIGNS.length; i++) {
            for (int a = 0; a < 3; a++) {
                for (int b = 0; b < 3; b++) {
                    int both = i <= 5 ? alike(a, b) : wider(a, b);
                    int type = both == NONE ? NONE : i >= 4 && i <= 9 ? BOOL : both;
                    typed(type, 27, 35, NAMES[a] + " ^" + SIGNS[i] + " " + NAMES[b]);
                }
            }
        }
    }

    private static void typesOfOne() {
        Check.sentence("36: 28: '-' wants a number, giving its type; NOT anything, giving that.");
        for (int a = 0; a < 3; a++) {
            typed(isNumber(a) ? a : NONE, 28, 36, "^-" + NAMES[a]);
            typed(a, 28, 36, "^NOT " + NAMES[a]);
        }
    }

    private static void assignments() {
        Check.sentence("12: 31: the expression does not fit. (A type FITS .. the same, or INT, the other being DINT.)");
        for (int target = 0; target < 3; target++) {
            for (int given = 0; given < 3; given++) {
                int fault = fits(given, target) ? 0 : 31;
                judged(fault, NAMES[target] + " ^:= " + NAMES[given] + ";");
                judged(fault, "a" + NAMES[target] + "[1] ^:= " + NAMES[given] + ";");
                judged(fault, NAMES[target] + " ^:= a" + NAMES[given] + "[1];");
            }
        }
    }

    private static void parameters() {
        Check.sentence("14: 31: the expression does not fit.");
        for (int given = 0; given < 3; given++) {
            judged(given == BOOL ? 0 : 31, "t(^IN := " + NAMES[given] + ");");
            judged(given == BOOL ? 31 : 0, "t(^PT := " + NAMES[given] + ");");
            judged(given == INT ? 0 : 31, "c(CU := b, ^PV := " + NAMES[given] + ");");
        }
        judged(0, "c(^PV := 32767);");
        judged(31, "c(^PV := 32768);");
    }

    private static void conditions() {
        Check.sentence("15: 34: an expression that is followed by a 11 is not BOOL. 16: 34: its expression is no number.");
        for (int a = 0; a < 3; a++) {
            judged(a == BOOL ? 0 : 34, "^IF " + NAMES[a] + " THEN END_IF;");
            judged(a == BOOL ? 0 : 34, "^IF b THEN ELSIF " + NAMES[a] + " THEN END_IF;");
            judged(a == BOOL ? 0 : 34, "^IF b THEN ELSIF b THEN ELSIF " + NAMES[a] + " THEN ELSE END_IF;");
            judged(a == BOOL ? 34 : 0, "^CASE " + NAMES[a] + " OF END_CASE;");
            judged(a == BOOL ? 34 : 0, "^CASE " + NAMES[a] + " OF 1 : ; ELSE ; END_CASE;");
        }
    }

    private static void loopNames() {
        Check.sentence("19: 22: no number");
        for (int a = 0; a < 3; a++) {
            judged(a == BOOL ? 22 : 0, "^FOR " + NAMES[a] + " := 1 TO 2 DO END_FOR;");
        }
    }

    private static void contactsAndCoils() {
        Check.sentence("25: 41: not BOOL. 28: .. 41: not BOOL");
        String[] outputs = {"t.Q", "c.CV", "t.ET"};
        for (int a = 0; a < 3; a++) {
            int fault = a == BOOL ? 0 : 41;
            for (String mark : new String[] {"", "/", ">", "<"}) {
                judged(fault, "LADDER RUNG ^" + mark + NAMES[a] + "; END_RUNG END_LADDER");
                judged(fault, "LADDER RUNG ^" + mark + outputs[a] + "; END_RUNG END_LADDER");
            }
            for (String mark : new String[] {"", "/", "+", "-"}) {
                judged(fault, "LADDER RUNG ^(" + mark + NAMES[a] + "); END_RUNG END_LADDER");
            }
        }
    }
}

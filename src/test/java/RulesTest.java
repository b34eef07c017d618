/** Promise 5: judge, the faults of rules, 10 to 44. */
public final class RulesTest {
    private static final String HEAD = "FUNCTION fn : INT VAR_INPUT i1 : INT; i2 : DINT; END_VAR fn := i1; END_FUNCTION "
        + "FUNCTION no : BOOL END_FUNCTION FUNCTION_BLOCK fb VAR_INPUT s : BOOL; n : DINT; END_VAR VAR_OUTPUT o : INT;"
        + " END_VAR VAR h : INT; END_VAR END_FUNCTION_BLOCK PROGRAM p VAR x, y : INT; d : DINT; b : BOOL;"
        + " a : ARRAY [0 .. 3] OF INT; c : ARRAY [0 .. 3] OF BOOL; t : TON; u : fb; ix AT %IX0 : BOOL;"
        + " qx AT %QX0 : BOOL; iw AT %IW0 : INT; qw AT %QW0 : INT; END_VAR ";
    private static final String TAIL = " END_PROGRAM";

    public static void main(String[] args) {
        blocks();
        sections();
        declaredNames();
        declaredPlaces();
        arraysAndInstances();
        constants();
        blockCells();
        cellsOfAll();
        variableNames();
        calls();
        operators();
        pairsOfOperators();
        assignments();
        parameters();
        conditionsAndRanges();
        loops();
        rungs();
        order();
        Check.finish("RulesTest");
    }

    private static void body(int fault, String marked) {
        Check.refused(fault, HEAD + marked + TAIL);
    }

    private static void fine(String statements) {
        Check.right(HEAD + statements + TAIL);
    }

    private static void declared(int fault, String marked) {
        Check.refused(fault, "PROGRAM p VAR " + marked + " END_VAR END_PROGRAM");
    }

    private static void fineDeclared(String declarations) {
        Check.right("PROGRAM p VAR " + declarations + " END_VAR END_PROGRAM");
    }

    private static void blocks() {
        Check.refusedAt(10, 0, "");
        Check.refusedAt(10, 0, "  FUNCTION f : INT END_FUNCTION FUNCTION_BLOCK g END_FUNCTION_BLOCK");
        Check.refused(10, "PROGRAM p END_PROGRAM ^PROGRAM q END_PROGRAM");
        Check.refused(10, "PROGRAM p END_PROGRAM ^FUNCTION f : INT END_FUNCTION");
        Check.refused(10, "PROGRAM p END_PROGRAM ^FUNCTION_BLOCK ton END_FUNCTION_BLOCK");
        String standard = "TON TOF TP CTU CTD R_TRIG F_TRIG SR RS ABS MIN MAX LIMIT SEL SHL SHR TO_INT TO_DINT TO_BOOL";
        for (String name : standard.split(" ")) {
            Check.refused(11, "^PROGRAM " + name + " END_PROGRAM");
            Check.refused(11, "^FUNCTION " + name.toLowerCase() + " : INT END_FUNCTION PROGRAM p END_PROGRAM");
            declared(12, "^" + name + " : INT;");
            Check.right("PROGRAM " + name + "1 END_PROGRAM");
        }
        Check.right("FUNCTION in : INT END_FUNCTION FUNCTION_BLOCK q END_FUNCTION_BLOCK PROGRAM pt END_PROGRAM");
        Check.refused(11, "FUNCTION f : INT END_FUNCTION ^FUNCTION_BLOCK f END_FUNCTION_BLOCK PROGRAM p END_PROGRAM");
        Check.refused(11, "FUNCTION_BLOCK f END_FUNCTION_BLOCK ^PROGRAM F END_PROGRAM");
        Check.refused(44, "^FUNCTION f : INT VAR_INPUT a, b, c, d : INT; e, g, h, i, j : BOOL; END_VAR END_FUNCTION "
            + "PROGRAM p END_PROGRAM");
        Check.refused(44, "^FUNCTION f : INT VAR_INPUT a, b, c, d : INT; END_VAR VAR v : INT; END_VAR VAR_INPUT e, g, h,"
            + " i, j : BOOL; END_VAR END_FUNCTION PROGRAM p END_PROGRAM");
        Check.right("FUNCTION f : INT VAR_INPUT a, b, c, d : INT; e, g, h, i : BOOL; END_VAR VAR v : INT; END_VAR"
            + " END_FUNCTION PROGRAM p END_PROGRAM");
        Check.right("FUNCTION_BLOCK f VAR_INPUT a, b, c, d, e, g, h, i, j : INT; END_VAR END_FUNCTION_BLOCK"
            + " PROGRAM p END_PROGRAM");
        Check.refused(37, "FUNCTION f : INT VAR_INPUT a, b, c, d, e, g, h, i, j : INT; END_VAR ^EXIT; END_FUNCTION");
    }

    private static void sections() {
        Check.refused(13, "PROGRAM p ^VAR_INPUT x : INT; END_VAR END_PROGRAM");
        Check.refused(13, "PROGRAM p VAR END_VAR ^VAR_OUTPUT END_VAR END_PROGRAM");
        Check.refused(13, "FUNCTION f : INT ^VAR_OUTPUT END_VAR END_FUNCTION");
        Check.right("FUNCTION f : INT VAR_INPUT x : INT; END_VAR VAR y : INT; END_VAR END_FUNCTION FUNCTION_BLOCK g"
            + " VAR_OUTPUT x : INT; END_VAR VAR_INPUT y : INT; END_VAR VAR z : INT; END_VAR END_FUNCTION_BLOCK"
            + " PROGRAM p VAR x : INT; END_VAR VAR y : INT; END_VAR END_PROGRAM");
        Check.refused(12, "PROGRAM p VAR_INPUT x : INT; ^x : INT; END_VAR END_PROGRAM");
        Check.refused(43, "FUNCTION_BLOCK f VAR_INPUT ^x : ARRAY [1 .. 2] OF INT; END_VAR END_FUNCTION_BLOCK");
        Check.refused(43, "FUNCTION_BLOCK f VAR_OUTPUT ^x : TON; END_VAR END_FUNCTION_BLOCK");
        Check.refused(43, "PROGRAM p VAR_INPUT ^x : TON; END_VAR END_PROGRAM");
        Check.refused(43, "FUNCTION_BLOCK f VAR_INPUT ^x, y : TON := 1; END_VAR END_FUNCTION_BLOCK");
    }

    private static void declaredNames() {
        declared(12, "x : INT; ^X : BOOL;");
        declared(12, "x, ^x : BOOL;");
        declared(12, "^p : BOOL;");
        Check.refused(12, "PROGRAM p VAR x : INT; END_VAR VAR ^x : INT; END_VAR END_PROGRAM");
        Check.refused(12, "FUNCTION f : INT VAR ^f : INT; END_VAR END_FUNCTION");
        Check.refused(12, "FUNCTION f : INT END_FUNCTION PROGRAM p VAR ^f : INT; END_VAR END_PROGRAM");
        Check.refused(12, "FUNCTION_BLOCK f END_FUNCTION_BLOCK PROGRAM p VAR ^f : f; END_VAR END_PROGRAM");
        Check.right("FUNCTION f : INT VAR g, x, p : INT; END_VAR END_FUNCTION FUNCTION g : INT VAR x : INT; END_VAR"
            + " END_FUNCTION PROGRAM p VAR x : BOOL; in, pt, q : INT; END_VAR END_PROGRAM");
    }

    private static void declaredPlaces() {
        Check.refused(14, "FUNCTION_BLOCK f VAR x AT ^%IX1 : BOOL; END_VAR END_FUNCTION_BLOCK");
        Check.refused(14, "FUNCTION f : INT VAR x AT ^%IX1 : BOOL; END_VAR END_FUNCTION");
        declared(14, "x, y AT ^%IX1 : BOOL;");
        declared(14, "x AT %IX1 : BOOL; y AT ^%ix01 : BOOL;");
        declared(14, "x AT %QW1 : INT; z AT %QX1 : BOOL; y AT ^%QW1 : BOOL;");
        fineDeclared("a AT %IX1 : BOOL; b AT %QX1 : BOOL; c AT %MX1 : BOOL; d AT %IW1 : INT; e AT %QW1 : INT;"
            + " f AT %MW1 : INT; g AT %IX0 : BOOL; h AT %IX255 : BOOL; i AT %QX0 : BOOL; j AT %MW63 : INT;");
        declared(15, "^x AT %IX1 : INT;");
        declared(15, "^x AT %QX1 : DINT;");
        declared(15, "^x AT %MW1 : BOOL;");
        declared(15, "^x AT %IW1 : DINT;");
        declared(15, "^x AT %MX1 : ARRAY [1 .. 2] OF BOOL;");
        declared(15, "^x AT %MX1 : TON;");
    }

    private static void arraysAndInstances() {
        Check.refused(16, "FUNCTION f : INT VAR x : ^ARRAY [1 .. 2] OF INT; END_VAR END_FUNCTION");
        declared(16, "x : ^ARRAY [TRUE .. 3] OF INT;");
        declared(16, "x : ^ARRAY [0 .. TRUE] OF INT;");
        declared(16, "x : ^ARRAY [2 .. 1] OF INT;");
        declared(16, "x : ^ARRAY [-1 .. -2] OF INT;");
        declared(16, "x : ^ARRAY [0 .. 256] OF INT;");
        declared(16, "x : ^ARRAY [-2147483647 .. 2147483647] OF INT;");
        declared(16, "x : ^ARRAY [2147483647 .. -2147483647] OF INT;");
        fineDeclared("x : ARRAY [1 .. 256] OF INT; y : ARRAY [-128 .. 127] OF BOOL; z : ARRAY [7 .. 7] OF DINT;"
            + " w : ARRAY [2147483392 .. 2147483647] OF INT;");
        declared(17, "x : ^foo;");
        declared(17, "x : ^p;");
        declared(17, "x : ^x;");
        declared(17, "x : ^MAX;");
        Check.refused(17, "FUNCTION f : INT END_FUNCTION PROGRAM p VAR x : ^f; END_VAR END_PROGRAM");
        Check.refused(17, "FUNCTION_BLOCK f VAR x : ^f; END_VAR END_FUNCTION_BLOCK");
        Check.refused(17, "FUNCTION_BLOCK f VAR x : ^g; END_VAR END_FUNCTION_BLOCK FUNCTION_BLOCK g END_FUNCTION_BLOCK");
        Check.refused(17, "FUNCTION_BLOCK g END_FUNCTION_BLOCK FUNCTION f : INT VAR x : ^g; END_VAR END_FUNCTION");
        Check.refused(17, "FUNCTION f : INT VAR x : ^TON; END_VAR END_FUNCTION");
        fineDeclared("a : TON; b : TOF; c : TP; d : CTU; e : CTD; f : R_TRIG; g : F_TRIG; h : SR; i : rs;");
    }

    private static void constants() {
        fineDeclared("a : INT := 32767; b : INT := -32768; c : DINT := -2147483647; d : BOOL := TRUE;"
            + " e : ARRAY [1 .. 2] OF BOOL := FALSE; f : ARRAY [1 .. 2] OF INT := -1; g AT %QX1 : BOOL := TRUE;"
            + " h AT %MW3 : INT := 5; i, j : DINT := 2147483647; k : DINT := 16#7fffffff;");
        declared(18, "^x : INT := 32768;");
        declared(18, "^x : INT := -32769;");
        declared(18, "y : INT; ^x, z : INT := TRUE;");
        declared(18, "^x : DINT := FALSE;");
        declared(18, "^x : BOOL := 1;");
        declared(18, "^x : BOOL := 0;");
        declared(18, "^x : TON := 1;");
        declared(18, "^x : TON := TRUE;");
        declared(18, "^x AT %IX1 : BOOL := TRUE;");
        declared(18, "^x AT %IW1 : INT := 1;");
        declared(18, "^x : ARRAY [1 .. 2] OF INT := 32768;");
        declared(18, "^x : ARRAY [1 .. 2] OF BOOL := 1;");
        declared(18, "^x : ARRAY [1 .. 2] OF DINT := TRUE;");
        declared(15, "^x AT %IX1 : INT := 1;");
    }

    private static void blockCells() {
        String wide = Check.names(0, 12) + " : ARRAY [1 .. 256] OF INT;";
        fineDeclared(wide + " x : ARRAY [1 .. 64] OF INT;");
        declared(19, wide + " ^x : ARRAY [1 .. 65] OF INT;");
        declared(19, wide + " x : ARRAY [1 .. 64] OF INT; ^y, z : BOOL;");
        fineDeclared(wide + " x : ARRAY [1 .. 64] OF INT; y AT %MX3 : BOOL;");
        Check.right("PROGRAM p VAR " + wide + " x : ARRAY [1 .. 64] OF INT; END_VAR LADDER END_LADDER END_PROGRAM");
        String sixteen = Check.names(0, 16) + " : ARRAY [1 .. 256] OF INT;";
        String block = "FUNCTION_BLOCK f VAR " + sixteen + " END_VAR LADDER END_LADDER END_FUNCTION_BLOCK ";
        Check.right(block + "PROGRAM p END_PROGRAM");
        Check.refused(19, "FUNCTION_BLOCK f VAR " + sixteen + " ^z : BOOL; END_VAR END_FUNCTION_BLOCK");
        Check.refused(19, block + "FUNCTION_BLOCK g VAR ^z : f; END_VAR END_FUNCTION_BLOCK");
        Check.right(block.replace("LADDER END_LADDER", "") + "FUNCTION_BLOCK g VAR z : f; END_VAR END_FUNCTION_BLOCK"
            + " PROGRAM p END_PROGRAM");
        declared(19, "^" + Check.names(0, 523) + " : TON;");
        fineDeclared(Check.names(0, 522) + " : TON; a, b, c, d : BOOL;");
    }

    private static void cellsOfAll() {
        StringBuilder functions = new StringBuilder();
        for (int i = 0; i < 25; i++) {
            functions.append("FUNCTION g").append((char) ('a' + i)).append(":INT LADDER END_LADDER END_FUNCTION ");
        }
        // 25 functions have 157 cells each; the program has 960, 3072, 64 and 156 with its ladder: 8177.
        String program = "PROGRAM p VAR " + Check.names(0, 12) + " : ARRAY [1 .. 256] OF INT;"
            + " x : ARRAY [1 .. 64] OF INT; END_VAR LADDER END_LADDER END_PROGRAM";
        String fifteen = "FUNCTION h:INT VAR " + Check.names(0, 14) + " : INT; END_VAR END_FUNCTION ";
        String sixteen = "FUNCTION h:INT VAR " + Check.names(0, 15) + " : INT; END_VAR END_FUNCTION ";
        TypeRules rules = Check.right(functions + fifteen + program);
        Check.is("count(4) at the brim", rules.count(4), 8192);
        Check.refusedAt(42, 0, functions + sixteen + program);
        Check.right(functions + "FUNCTION_BLOCK h VAR " + Check.names(0, 40) + ":INT; END_VAR END_FUNCTION_BLOCK "
            + program);
    }

    private static void variableNames() {
        body(20, "^z := 1;");
        body(20, "x := ^z;");
        body(20, "x := ^p;");
        body(20, "x := ^fn;");
        body(20, "x := ^i1;");
        body(20, "x := ^z[1];");
        body(20, "^z[1] := 1;");
        body(20, "b := ^z.Q;");
        body(20, "^z(IN := 1);");
        body(20, "^FOR z := 1 TO 2 DO x := 1; END_FOR;");
        body(21, "^a := 1;");
        body(21, "^t := 1;");
        body(21, "x := ^a;");
        body(21, "b := ^t;");
        body(21, "x := ^x[1];");
        body(21, "x := ^t[1];");
        body(21, "^x[1] := 1;");
        body(21, "b := ^x.Q;");
        body(21, "b := ^a.Q;");
        body(21, "^x(IN := 1);");
        body(21, "^a();");
        body(21, "^FOR a := 1 TO 2 DO END_FOR;");
        body(21, "^FOR t := 1 TO 2 DO END_FOR;");
        body(22, "x := ^a[b];");
        body(22, "^a[TRUE] := 1;");
        body(22, "^FOR b := 1 TO 2 DO END_FOR;");
        body(20, "x := ^z[b];");
        body(20, "x := z[^w];");
        body(23, "b := ^t.IN;");
        body(23, "b := ^t.b;");
        body(23, "x := ^u.h;");
        body(23, "b := ^u.s;");
        body(23, "x := ^u.x;");
        fine("x := u.o; b := t.Q; d := t.ET; x := a[d]; b := c[a[1]]; a[x] := 3; c[3] := TRUE;");
        Check.right("FUNCTION f : DINT f := 1; f := f + 1; FOR f := 1 TO 2 DO END_FOR; END_FUNCTION"
            + " PROGRAM p END_PROGRAM");
        Check.refused(21, "FUNCTION f : DINT f := ^f[1]; END_FUNCTION");
        Check.refused(31, "FUNCTION f : INT f ^:= 40000; END_FUNCTION");
    }

    private static void calls() {
        body(24, "x := ^foo(1);");
        body(24, "x := ^p();");
        body(24, "x := ^fb();");
        body(24, "x := ^TON();");
        body(24, "x := ^x(1);");
        body(24, "x := ^foo(x + x, 1);");
        Check.refused(24, "FUNCTION f : INT f := ^f(); END_FUNCTION");
        Check.refused(24, "FUNCTION f : INT f := ^g(); END_FUNCTION FUNCTION g : INT END_FUNCTION");
        for (String call : ("ABS() ABS(1,2) MIN(1) MIN(1,2,3) MAX(1) MAX(1,2,3) LIMIT(1,2) LIMIT(1,2,3,4) SEL(b,1)"
                + " SEL(b,1,2,3) SHL(1) SHL(1,2,3) SHR(1) SHR() TO_INT() TO_INT(1,2) TO_DINT() TO_DINT(1,1) TO_BOOL()"
                + " TO_BOOL(1,2) fn() fn(1) fn(1,2,3) no(1)").split(" ")) {
            body(25, "x := ^" + call + ";");
        }
        for (String call : ("ABS(b) MIN(b,1) MIN(1,b) MIN(b,b) MAX(b,1) MAX(1,b) LIMIT(b,1,1) LIMIT(1,b,1)"
                + " LIMIT(1,1,b) SEL(1,1,1) SEL(b,b,1) SEL(b,1,b) SEL(d,b,b) SHL(b,1) SHL(1,b) SHR(b,b) SHR(1,b)"
                + " TO_BOOL(b) fn(d,1) fn(b,1) fn(1,b) fn(40000,1)").split(" ")) {
            body(26, "x := ^" + call + ";");
        }
        for (String call : ("ABS(x) MIN(x,1) MAX(1,x) LIMIT(1,x,3) SEL(b,1,x) SHL(x,d) SHR(x,1) TO_INT(b) TO_INT(x)"
                + " TO_INT(d) fn(x,x) fn(1,d) TO_INT(no())").split(" ")) {
            fine("x := " + call + ";");
        }
        for (String call : ("ABS(d) MIN(d,1) MIN(1,d) MAX(1,d) LIMIT(1,2,d) LIMIT(d,1,1) SEL(b,1,d) SEL(b,d,1) SHL(d,1)"
                + " SHR(d,1) TO_DINT(x) TO_DINT(b) TO_DINT(d)").split(" ")) {
            body(31, "x ^:= " + call + ";");
            fine("d := " + call + ";");
        }
        fine("b := SEL(b, b, b); b := TO_BOOL(x); b := TO_BOOL(d); b := no(); d := fn(1, 2);");
        body(31, "b ^:= fn(1, 2);");
        body(31, "x ^:= no();");
    }

    private static void operators() {
        for (String sign : "OR XOR AND & = <>".split(" ")) {
            body(27, "b := b ^" + sign + " x;");
            body(27, "b := d ^" + sign + " b;");
            fine("b := b " + sign + " TRUE;");
        }
        for (String sign : "< > <= >= + - * / MOD".split(" ")) {
            body(27, "b := b ^" + sign + " b;");
            body(27, "b := b ^" + sign + " x;");
            body(27, "b := x ^" + sign + " b;");
        }
        for (String sign : "= <> < > <= >=".split(" ")) {
            fine("b := x " + sign + " x; b := x " + sign + " d; b := d " + sign + " 1;");
            body(31, "x ^:= x " + sign + " x;");
        }
        for (String sign : "OR XOR AND & + - * / MOD".split(" ")) {
            fine("x := x " + sign + " x; d := x " + sign + " d; d := d " + sign + " d; d := x " + sign + " x;");
            body(31, "x ^:= x " + sign + " d;");
            body(31, "x ^:= d " + sign + " x;");
            body(31, "b ^:= x " + sign + " x;");
        }
        body(28, "b := ^-b;");
        body(28, "x := ^-TRUE;");
        fine("x := -x; d := -d; x := NOT x; d := NOT d; b := NOT b; x := -32767; d := -2147483647;");
        body(31, "x ^:= -32768;");
        body(31, "x ^:= NOT d;");
        body(31, "b ^:= NOT x;");
        // The later named sign binds closer, and equal ones from the left on.
        fine("b := b OR x = x; b := x < x = b; b := x + x < x; b := b AND x <> x; x := x + x * x; b := -x < x;");
        fine("b := b = x < x; b := TRUE OR FALSE XOR b AND b; b := b = b = b; b := x = x = b; b := NOT b = b;");
        body(27, "b := b ^= x = x;");
        body(27, "b := x < x ^< x;");
        body(27, "b := x ^= x < x;");
        body(27, "b := x ^* (x < x);");
        fine("b := x - 1 - 1 > 2; b := (x = x) = (x = x);");
    }

    private static final String[] SIGNS = {"OR", "XOR", "AND", "&", "=", "<>", "<", ">", "<=", ">=", "+", "-", "*", "/",
        "MOD"};
    private static final int[] CLOSENESS = {0, 1, 2, 2, 3, 3, 4, 4, 4, 4, 5, 5, 6, 6, 6};

    /** The type that the sign gives of BOOL 0 and DINT 2, or NONE. */
    private static int typeOf(int sign, int left, int right) {
        boolean alike = left == right && left != Check.NONE;
        boolean fits = sign <= 5 ? alike : alike && left == 2;
        return !fits ? Check.NONE : sign >= 4 && sign <= 9 ? 0 : left;
    }

    /** Every two signs with every types of their three operands: which binds closer, and what it gives. */
    private static void pairsOfOperators() {
        for (int first = 0; first < SIGNS.length; first++) {
            for (int second = 0; second < SIGNS.length; second++) {
                for (int types = 0; types < 8; types++) {
                    pair(first, second, types % 2 * 2, types / 2 % 2 * 2, types / 4 * 2);
                }
            }
        }
    }

    private static void pair(int first, int second, int a, int b, int c) {
        boolean secondCloser = CLOSENESS[second] > CLOSENESS[first];
        int inner = secondCloser ? typeOf(second, b, c) : typeOf(first, a, b);
        int outer = secondCloser ? typeOf(first, a, inner) : typeOf(second, inner, c);
        String[] names = {"k", "", "e"};
        String head = "PROGRAM p VAR k : BOOL; e : DINT; END_VAR " + (outer == 0 ? "k" : "e") + " := " + names[a] + " ";
        String middle = SIGNS[first] + " " + names[b] + " ";
        String last = SIGNS[second] + " " + names[c] + "; END_PROGRAM";
        if (outer == Check.NONE) {
            boolean atSecond = secondCloser == (inner == Check.NONE);
            Check.refused(27, head + (atSecond ? middle + "^" : "^" + middle) + last);
            return;
        }
        TypeRules rules = Check.right(head + middle + last);
        int two = Check.node(rules, 35, 0);
        Check.is("type of " + middle + last, rules.type(two), outer);
        Check.is("shape of " + middle + last, rules.kind(two + 1), secondCloser ? 6 : 35);
        Check.is("inner type of " + middle + last, rules.type(two + (secondCloser ? 2 : 1)), inner);
    }

    private static void assignments() {
        fine("x := 1; x := 32767; d := 32768; d := x; b := TRUE; qx := b; qw := 3; a[1] := x;");
        body(31, "x ^:= 32768;");
        body(31, "x ^:= TRUE;");
        body(31, "b ^:= 1;");
        body(31, "x ^:= d;");
        body(31, "d ^:= b;");
        body(31, "a[1] ^:= d;");
        body(31, "c[1] ^:= 1;");
        body(29, "ix ^:= TRUE;");
        body(29, "iw ^:= 1;");
        body(29, "iw ^:= TRUE;");
        body(29, "^FOR iw := 1 TO 2 DO END_FOR;");
        Check.refused(29, "FUNCTION f : INT VAR_INPUT i : INT; END_VAR i ^:= 1; END_FUNCTION");
        Check.refused(29, "FUNCTION_BLOCK f VAR_INPUT i : INT; END_VAR ^FOR i := 1 TO 2 DO END_FOR; END_FUNCTION_BLOCK");
        Check.right("FUNCTION_BLOCK f VAR_INPUT i : INT; END_VAR VAR_OUTPUT o : INT; END_VAR o := i; o := o + 1;"
            + " END_FUNCTION_BLOCK PROGRAM p END_PROGRAM");
        body(30, "FOR x := 1 TO 2 DO x ^:= 1; END_FOR;");
        body(30, "FOR x := 1 TO 2 DO IF b THEN CASE y OF 1 : x ^:= TRUE; END_CASE; END_IF; END_FOR;");
        body(30, "FOR x := 1 TO 2 DO FOR y := 1 TO 2 DO x ^:= 1; END_FOR; END_FOR;");
        body(30, "FOR x := 1 TO 2 DO ^FOR x := 1 TO 2 DO END_FOR; END_FOR;");
        body(30, "FOR x := 1 TO 2 DO FOR y := 1 TO 2 DO ^FOR x := 1 TO 2 DO END_FOR; END_FOR; END_FOR;");
        body(30, "FOR a := 1 TO 2 DO a[1] ^:= 1; END_FOR;");
        fine("FOR x := 1 TO 2 DO y := x; END_FOR; x := 1; FOR x := 1 TO 2 DO FOR y := 1 TO 2 DO END_FOR; y := 1; END_FOR;");
    }

    private static void parameters() {
        fine("t(); t(IN := b); t(PT := x); t(PT := T#5s, IN := b); u(); u(n := x, s := b); u(n := d);");
        body(32, "t(^Q := b);");
        body(32, "t(^x := b);");
        body(32, "u(^o := x);");
        body(32, "u(^h := x);");
        body(32, "u(s := b, ^in := b);");
        body(33, "t(IN := b, ^IN := b);");
        body(33, "t(IN := b, PT := x, ^IN := x);");
        body(31, "t(^IN := x);");
        body(31, "t(^PT := b);");
        body(31, "u(^n := b);");
        body(20, "^z(IN := x, IN := b, foo := b);");
        body(21, "^x(IN := x, IN := b, foo := b);");
        body(20, "z(IN := ^w);");
        body(27, "x(IN := b ^+ b);");
        Check.refused(31, "PROGRAM p VAR c : CTU; d : DINT; END_VAR c(^PV := d); END_PROGRAM");
        String[] blocks = {"TON IN:=b PT:=d", "TOF IN:=b PT:=d", "TP IN:=b PT:=d", "CTU CU:=b R:=b PV:=x",
            "CTD CD:=b LD:=b PV:=x", "R_TRIG CLK:=b", "F_TRIG CLK:=b", "SR S1:=b R:=b", "RS S:=b R1:=b"};
        String[] outputs = {"Q ET", "Q ET", "Q ET", "Q CV", "Q CV", "Q", "Q", "Q1", "Q1"};
        String[] pins = "IN PT CU R PV CD LD CLK S1 S R1 Q ET CV Q1".split(" ");
        for (int i = 0; i < blocks.length; i++) {
            String[] parts = blocks[i].split(" ");
            String head = "PROGRAM p VAR b : BOOL; x : INT; d : DINT; k : " + parts[0] + "; END_VAR ";
            String inputs = blocks[i].substring(parts[0].length() + 1).replace(" ", ", ");
            Check.right(head + "k(" + inputs + "); END_PROGRAM");
            for (String pin : pins) {
                if (!(" " + outputs[i] + " ").contains(" " + pin + " ")) {
                    Check.refused(23, head + "d := ^k." + pin + "; END_PROGRAM");
                }
                if (!blocks[i].contains(" " + pin + ":")) {
                    Check.refused(32, head + "k(^" + pin + " := b); END_PROGRAM");
                }
            }
        }
    }

    private static void conditionsAndRanges() {
        body(34, "^IF x THEN END_IF;");
        body(34, "^IF b THEN ELSIF b THEN ELSIF 1 THEN END_IF;");
        body(34, "IF b THEN ^IF d THEN END_IF; END_IF;");
        body(34, "^CASE b OF END_CASE;");
        body(34, "^CASE x = 1 OF 1 : ; ELSE ; END_CASE;");
        fine("IF b THEN ELSIF x = 1 THEN ELSE END_IF; CASE x OF END_CASE; CASE d + 1 OF 1 : ; ELSE ; END_CASE;");
        body(35, "CASE x OF ^TRUE : END_CASE;");
        body(35, "CASE x OF 1, ^FALSE : END_CASE;");
        body(35, "CASE x OF ^1 .. TRUE : END_CASE;");
        body(35, "CASE x OF ^FALSE .. 1 : END_CASE;");
        body(35, "CASE x OF ^2 .. 1 : END_CASE;");
        body(35, "CASE x OF 1 : ; 1 .. 2, ^-1 .. -2 : END_CASE;");
        body(35, "CASE b OF ^2 .. 1 : END_CASE;");
        fine("CASE x OF 1 .. 1, 1 .. 2, -2 .. -1, 40000, -2147483647 .. 2147483647 : ; 1 : ; END_CASE;");
    }

    private static void loops() {
        body(37, "^EXIT;");
        body(37, "IF b THEN ^EXIT; END_IF;");
        body(37, "FOR x := 1 TO 2 DO EXIT; END_FOR; ^EXIT;");
        fine("FOR x := 1 TO 2 DO IF b THEN CASE y OF 1 : EXIT; END_CASE; END_IF; END_FOR; RETURN;");
        String[] wrong = {"x := TRUE TO 2", "x := 1 TO FALSE", "x := 1 TO 2 BY TRUE", "x := 32768 TO 1", "x := 1 TO 32768",
            "x := -32769 TO 1", "x := 1 TO 2 BY 32768", "x := 1 TO 2 BY -32769", "x := 1 TO 2 BY 0", "x := 2 TO 1 BY 0",
            "d := 1 TO 2 BY 0", "d := 0 TO 1000000", "d := 1 TO 1000001", "d := 1000001 TO 1 BY -1",
            "d := 0 TO 2000000 BY 2", "d := 0 TO 2000001 BY 2", "d := -2147483647 TO 2147483647",
            "d := 2147483647 TO -2147483647 BY -1", "d := -2147483647 TO 2147483647 BY 4294",
            "d := -500000 TO 500000"};
        for (String loop : wrong) {
            body(36, "^FOR " + loop + " DO END_FOR;");
        }
        String[] right = {"x := 1 TO 2", "x := -32768 TO 32767", "x := 32767 TO -32768 BY -1", "x := 2 TO 1",
            "x := 1 TO 2 BY -1", "x := 1 TO 1", "x := 1 TO 1 BY -5", "x := 1 TO 2 BY 32767", "d := 1 TO 1000000",
            "d := 1000000 TO 1 BY -1", "d := 0 TO 1999999 BY 2", "d := 0 TO 1999998 BY 2", "d := 2147483647 TO -2147483647",
            "d := -2147483647 TO 2147483647 BY -1", "d := -2147483647 TO 2147483647 BY 4295",
            "d := 2147483647 TO -2147483647 BY -2147483647", "d := -499999 TO 500000"};
        for (String loop : right) {
            fine("FOR " + loop + " DO END_FOR;");
        }
        body(29, "^FOR iw := TRUE TO 2 DO END_FOR;");
    }

    private static void ladder(int fault, String marked) {
        body(fault, "LADDER " + marked + " END_LADDER");
    }

    private static void fineLadder(String rungs) {
        fine("LADDER " + rungs + " END_LADDER");
    }

    private static void rungs() {
        fineLadder("RUNG " + Check.repeat(Check.repeat("b ", 12) + ";", 12) + " END_RUNG");
        ladder(38, "^RUNG " + Check.repeat("b;", 13) + " END_RUNG");
        ladder(38, "^RUNG " + Check.repeat("b ", 13) + "; END_RUNG");
        ladder(38, "^RUNG b b; b; END_RUNG");
        ladder(38, "^RUNG b; b b; END_RUNG");
        ladder(38, "RUNG b; END_RUNG ^RUNG b b; b b; b; END_RUNG");
        fineLadder("RUNG b|b|b; b b b; END_RUNG RUNG " + Check.repeat("b|", 11) + "b; " + Check.repeat("-", 12)
            + "; END_RUNG");
        fineLadder("RUNG b (qx); END_RUNG RUNG b; END_RUNG RUNG (/qx); END_RUNG");
        ladder(39, "RUNG ^(qx) b; END_RUNG");
        ladder(39, "RUNG b ^(qx) (qx); END_RUNG");
        ladder(39, "RUNG ^(qx) | b; b b; END_RUNG");
        ladder(39, "RUNG ^(x) b; END_RUNG");
        ladder(40, "RUNG b ^| b; END_RUNG");
        ladder(40, "RUNG b | b; b ^| b; END_RUNG");
        ladder(40, "RUNG b b ^| b | x; END_RUNG");
        ladder(41, "RUNG ^x; END_RUNG");
        ladder(41, "RUNG b ^/x; END_RUNG");
        ladder(41, "RUNG ^u.o; END_RUNG");
        ladder(41, "RUNG ^>t.ET; END_RUNG");
        ladder(41, "RUNG ^(x); END_RUNG");
        ladder(41, "RUNG ^(iw); END_RUNG");
        ladder(29, "RUNG ^(ix); END_RUNG");
        ladder(20, "RUNG ^z; END_RUNG");
        ladder(20, "RUNG (^z); END_RUNG");
        ladder(20, "RUNG ^z.Q; END_RUNG");
        ladder(21, "RUNG ^c; END_RUNG");
        ladder(21, "RUNG (^t); END_RUNG");
        ladder(21, "RUNG ^b.Q; END_RUNG");
        ladder(23, "RUNG ^t.IN; END_RUNG");
        fineLadder("RUNG ix /ix >ix <ix t.Q /t.Q >t.Q <t.Q - * - (+qx); END_RUNG");
        Check.refused(29, "FUNCTION_BLOCK f VAR_INPUT i : BOOL; END_VAR LADDER RUNG ^(i); END_RUNG END_LADDER"
            + " END_FUNCTION_BLOCK");
        Check.right("FUNCTION f : BOOL VAR_INPUT i : BOOL; END_VAR LADDER RUNG i (f); END_RUNG END_LADDER END_FUNCTION"
            + " PROGRAM p END_PROGRAM");
    }

    private static void order() {
        // Children before their parents, otherwise the first node; of one node the rule that is told first.
        body(20, "x := b + ^z; w := 1;");
        body(20, "^z := w;");
        body(20, "x := ^w + z;");
        body(20, "z[^w] := v;");
        body(22, "^a[b] := z;");
        body(27, "x := b ^+ b + z;");
        body(31, "x ^:= b; z := 1;");
        body(22, "x := MIN(^a[b], z);");
        body(20, "FOR z := TRUE TO 2 DO ^w := 1; END_FOR;");
        body(37, "IF x THEN ^EXIT; END_IF;");
        body(35, "CASE b OF ^TRUE : z := 1; END_CASE;");
        Check.refused(18, "FUNCTION f : INT VAR_OUTPUT ^x : INT := TRUE; END_VAR x := y; END_FUNCTION");
        Check.refused(14, "FUNCTION f : INT VAR x, y AT ^%IX1 : TON := 1; END_VAR END_FUNCTION");
        Check.refused(10, "PROGRAM p END_PROGRAM ^PROGRAM p END_PROGRAM");
        Check.refused(11, "FUNCTION f : INT END_FUNCTION ^FUNCTION f : INT VAR f : INT; END_VAR END_FUNCTION");
        Check.refused(43, "FUNCTION_BLOCK f VAR_OUTPUT ^x : ARRAY [1 .. 2] OF INT := TRUE; END_VAR END_FUNCTION_BLOCK");
        declared(16, "x : ^ARRAY [2 .. 1] OF INT := TRUE;");
        declared(12, "x AT %IX1 : BOOL; ^x AT %IX1 : INT;");
        body(25, "x := ^ABS(b, b);");
        body(24, "x := ^foo(x, b);");
        ladder(41, "RUNG ^x | b; END_RUNG");
        ladder(40, "RUNG b ^| b b x; END_RUNG");
        body(20, "^FOR z := TRUE TO 2 DO END_FOR;");
        body(22, "^FOR ix := TRUE TO 2 DO END_FOR;");
        body(30, "FOR x := 1 TO 2 DO ^FOR x := TRUE TO 2 DO END_FOR; END_FOR;");
        body(32, "t(^Q := b, Q := b);");
        body(33, "t(IN := b, ^IN := 1);");
    }
}

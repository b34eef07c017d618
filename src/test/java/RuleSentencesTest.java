/** RULES, each with its boundary on both sides: blocks, declarations, loops, rungs and bounds of cells. */
public final class RuleSentencesTest {
    private static final String STANDARD = "TON TOF TP CTU CTD R_TRIG F_TRIG SR RS ABS MIN MAX LIMIT SEL SHL SHR TO_INT"
        + " TO_DINT TO_BOOL";
    private static final String HEAD = "FUNCTION fn : INT VAR_INPUT i1 : INT; END_VAR END_FUNCTION FUNCTION_BLOCK fb"
        + " VAR_INPUT s : BOOL; n : DINT; END_VAR VAR_OUTPUT o : INT; END_VAR VAR h : INT; END_VAR END_FUNCTION_BLOCK"
        + " PROGRAM p VAR x, y : INT; d, e : DINT; b, c : BOOL; a : ARRAY [0 .. 3] OF INT; t : TON; u : fb;"
        + " ix AT %IX0 : BOOL; qx AT %QX0 : BOOL; mx AT %MX0 : BOOL; iw AT %IW0 : INT; qw AT %QW0 : INT;"
        + " mw AT %MW0 : INT; END_VAR ";
    private static final String TAIL = " END_PROGRAM";

    public static void main(String[] args) {
        oneProgramAtTheEnd();
        namesOfBlocks();
        sections();
        namesOfVariables();
        placesOfVariables();
        elements();
        instances();
        notSimple();
        typesAtPlaces();
        constantsOfInt();
        constantsOfOthers();
        cellsOfABlock();
        cellsBehindVariables();
        variablesOfThisBlock();
        outputsOfInstances();
        inputsOfInstances();
        oneInputTwice();
        assignedInputs();
        assignedLoopNames();
        ranges();
        constantsOfLoops();
        stepsOfLoops();
        timesOfLoops();
        exits();
        rowsOfRungs();
        cellsOfRows();
        coils();
        links();
        inputsOfFunctions();
        cellsOfAll();
        Check.finish("RuleSentencesTest");
    }

    private static void fine(String statements) {
        Check.right(HEAD + statements + TAIL);
    }

    private static void refused(int fault, String marked) {
        Check.refused(fault, HEAD + marked + TAIL);
    }

    /** Fine without the mark, if the fault is 0. */
    private static void judged(int fault, String marked) {
        if (fault == 0) {
            Check.right(marked.replace("^", ""));
        } else {
            Check.refused(fault, marked);
        }
    }

    private static void declared(int fault, String marked) {
        judged(fault, "PROGRAM p VAR " + marked + " END_VAR END_PROGRAM");
    }

    private static void oneProgramAtTheEnd() {
        Check.sentence("1, 2, 3: FAULT 10: a PROGRAM is before. 0: 10: there is no PROGRAM.");
        String function = "FUNCTION f : INT END_FUNCTION ";
        String block = "FUNCTION_BLOCK g END_FUNCTION_BLOCK ";
        String program = "PROGRAM p END_PROGRAM ";
        Check.right(program);
        Check.right(function + block + program);
        Check.right(block + function + program);
        Check.refused(10, program + "^" + function);
        Check.refused(10, program + "^" + block);
        Check.refused(10, function + program + "^PROGRAM q END_PROGRAM");
        Check.refused(10, program + "^" + program);
        Check.refused(10, program + "^FUNCTION f : INT f := z; END_FUNCTION");
        Check.refusedAt(10, 0, "");
        Check.refusedAt(10, 0, " \n ");
        Check.refusedAt(10, 0, "  " + function);
        Check.refusedAt(10, 0, "(* *) " + block + function);
    }

    private static void namesOfBlocks() {
        Check.sentence("11: the name is that of a standard block or function, or of a block before.");
        for (String name : STANDARD.split(" ")) {
            for (String given : new String[] {name, name.toLowerCase()}) {
                Check.refused(11, "^PROGRAM " + given + " END_PROGRAM");
                Check.refused(11, "^FUNCTION " + given + " : INT END_FUNCTION PROGRAM p END_PROGRAM");
                Check.refused(11, "^FUNCTION_BLOCK " + given + " END_FUNCTION_BLOCK PROGRAM p END_PROGRAM");
            }
            Check.right("PROGRAM " + name + "_ END_PROGRAM");
            Check.right("PROGRAM _" + name + " END_PROGRAM");
        }
        String[] kinds = {"FUNCTION", "FUNCTION_BLOCK"};
        String[] types = {" : INT", ""};
        for (int i = 0; i < 2; i++) {
            String first = kinds[i] + " f" + types[i] + " END_" + kinds[i] + " ";
            for (int k = 0; k < 2; k++) {
                Check.refused(11, first + "^" + kinds[k] + " F" + types[k] + " END_" + kinds[k] + " PROGRAM p END_PROGRAM");
                Check.right(first + kinds[k] + " f2" + types[k] + " END_" + kinds[k] + " PROGRAM p END_PROGRAM");
            }
            Check.refused(11, first + "^PROGRAM f END_PROGRAM");
        }
        Check.right("FUNCTION f : INT VAR g, p : INT; END_VAR END_FUNCTION FUNCTION g : INT END_FUNCTION"
            + " PROGRAM p END_PROGRAM");
    }

    private static void sections() {
        Check.sentence("4: 13: not VAR in a PROGRAM; VAR_OUTPUT in a FUNCTION.");
        String[] words = {"VAR", "VAR_INPUT", "VAR_OUTPUT"};
        for (int i = 0; i < 3; i++) {
            for (String declaration : new String[] {"", "v : INT; "}) {
                String section = "^" + words[i] + " " + declaration + "END_VAR ";
                judged(i == 0 ? 0 : 13, "PROGRAM p " + section + "END_PROGRAM");
                judged(i < 2 ? 0 : 13, "FUNCTION f : INT " + section + "END_FUNCTION PROGRAM p END_PROGRAM");
                judged(0, "FUNCTION_BLOCK f " + section + "END_FUNCTION_BLOCK PROGRAM p END_PROGRAM");
            }
        }
        Check.refused(13, "PROGRAM p VAR END_VAR ^VAR_INPUT END_VAR VAR_OUTPUT END_VAR END_PROGRAM");
    }

    private static void namesOfVariables() {
        Check.sentence("6 in 5: 12: .. of a variable of this block before, of this block or one before, or of a standard ..");
        declared(0, "x, y : INT; z : INT;");
        declared(12, "x, ^x : INT;");
        declared(12, "x, y, ^X : INT;");
        declared(12, "x : INT; ^x : INT;");
        declared(12, "x : INT; END_VAR VAR ^x : INT;");
        declared(12, "^p : INT;");
        for (String name : STANDARD.split(" ")) {
            declared(12, "^" + name + " : INT;");
            declared(12, "x, ^" + name.toLowerCase() + " : INT;");
            declared(0, name + "_ : INT;");
        }
        Check.refused(12, "FUNCTION f : INT VAR_INPUT ^f : INT; END_VAR END_FUNCTION PROGRAM p END_PROGRAM");
        Check.refused(12, "FUNCTION_BLOCK f VAR ^f : INT; END_VAR END_FUNCTION_BLOCK PROGRAM p END_PROGRAM");
        Check.refused(12, "FUNCTION f : INT END_FUNCTION PROGRAM p VAR ^f : INT; END_VAR END_PROGRAM");
        Check.refused(12, "FUNCTION_BLOCK f END_FUNCTION_BLOCK PROGRAM p VAR ^f : INT; END_VAR END_PROGRAM");
        Check.right("FUNCTION f : INT VAR g, x, p : INT; END_VAR END_FUNCTION FUNCTION_BLOCK g VAR x : INT; END_VAR"
            + " END_FUNCTION_BLOCK PROGRAM p VAR x, in, pt, q : INT; END_VAR END_PROGRAM");
    }

    private static void placesOfVariables() {
        Check.sentence("7: 14: not in a PROGRAM; or more than one name is before it; or it was in a declaration before.");
        declared(0, "x AT ^%IX1 : BOOL;");
        declared(14, "x, y AT ^%IX1 : BOOL;");
        declared(14, "x, y, z AT ^%IX1 : BOOL;");
        Check.refused(14, "FUNCTION f : BOOL VAR x AT ^%MX1 : BOOL; END_VAR END_FUNCTION PROGRAM p END_PROGRAM");
        Check.refused(14, "FUNCTION_BLOCK f VAR x AT ^%MX1 : BOOL; END_VAR END_FUNCTION_BLOCK PROGRAM p END_PROGRAM");
        String[] areas = "IX QX MX IW QW MW".split(" ");
        for (String area : areas) {
            boolean bits = area.endsWith("X");
            String type = bits ? " : BOOL; " : " : INT; ";
            for (int n : new int[] {0, 1, 31, 32, 62, bits ? 254 : 62}) {
                String first = "x AT %" + area + n + type;
                declared(14, first + "y AT ^%" + area.toLowerCase() + "0" + n + type);
                declared(0, first + "y AT %" + area + (n + 1) + type);
                declared(14, first + "END_VAR VAR y AT ^%" + area + n + type);
            }
            StringBuilder others = new StringBuilder("x AT %" + area + "5" + type);
            for (String other : areas) {
                if (!other.equals(area)) {
                    others.append("v").append(other).append(" AT %").append(other).append("5")
                        .append(other.endsWith("X") ? " : BOOL; " : " : INT; ");
                }
            }
            declared(0, others.toString());
            declared(14, others + "y AT ^%" + area + "5" + type);
        }
    }

    private static void elements() {
        Check.sentence("9: 16: .. the first one is greater; there would be more than 256 elements (reckoned without a bound)");
        for (long first : new long[] {-2147483647L, -1000L, -256L, -255L, -1L, 0L, 1L, 32767L, 2147483392L}) {
            for (long more : new long[] {0, 1, 254, 255, 256, 257, 512, 65535, 65536}) {
                if (first + more <= 2147483647L) {
                    declared(more < 256 ? 0 : 16, "x : ^ARRAY [" + first + " .. " + (first + more) + "] OF BOOL;");
                    declared(more == 0 ? 0 : 16, "x : ^ARRAY [" + (first + more) + " .. " + first + "] OF BOOL;");
                }
            }
        }
        declared(16, "x : ^ARRAY [-2147483647 .. 2147483647] OF INT;");
        declared(16, "x : ^ARRAY [2147483647 .. -2147483647] OF INT;");
        declared(16, "x : ^ARRAY [-1 .. 2147483647] OF INT;");
        declared(16, "x : ^ARRAY [-2147483647 .. 1] OF INT;");
        declared(16, "x : ^ARRAY [2147483647 .. -2] OF INT;");
        declared(16, "x : ^ARRAY [2147483647 .. -2147483393] OF INT;");
        declared(0, "x : ARRAY [2147483647 .. 2147483647] OF INT;");
        Check.sentence("9: 16: in a FUNCTION; a constant is 31");
        for (String bounds : new String[] {"TRUE .. 3", "FALSE .. 3", "0 .. TRUE", "-1 .. FALSE", "FALSE .. TRUE"}) {
            declared(16, "x : ^ARRAY [" + bounds + "] OF BOOL;");
        }
        declared(0, "x : ARRAY [0 .. 1] OF BOOL;");
        Check.refused(16, "FUNCTION f : INT VAR x : ^ARRAY [1 .. 2] OF INT; END_VAR END_FUNCTION PROGRAM p END_PROGRAM");
        Check.right("FUNCTION_BLOCK f VAR x : ARRAY [1 .. 2] OF INT; END_VAR END_FUNCTION_BLOCK PROGRAM p END_PROGRAM");
    }

    private static void instances() {
        Check.sentence("10: 17: no standard block, and no FUNCTION_BLOCK before; or in a FUNCTION.");
        String[] standard = STANDARD.split(" ");
        for (int i = 0; i < standard.length; i++) {
            declared(i < 9 ? 0 : 17, "x : ^" + standard[i] + ";");
            declared(17, "x : ^" + standard[i] + "_;");
        }
        declared(17, "x : ^p;");
        declared(17, "x : ^x;");
        declared(17, "x : INT; y : ^x;");
        String block = "FUNCTION_BLOCK g END_FUNCTION_BLOCK ";
        Check.right(block + "PROGRAM p VAR x : G; END_VAR END_PROGRAM");
        Check.right(block + "FUNCTION_BLOCK f VAR x : g; END_VAR END_FUNCTION_BLOCK PROGRAM p END_PROGRAM");
        Check.refused(17, "FUNCTION_BLOCK g VAR x : ^g; END_VAR END_FUNCTION_BLOCK PROGRAM p END_PROGRAM");
        Check.refused(17, "FUNCTION_BLOCK f VAR x : ^g; END_VAR END_FUNCTION_BLOCK " + block + "PROGRAM p END_PROGRAM");
        Check.refused(17, "FUNCTION g : INT END_FUNCTION PROGRAM p VAR x : ^g; END_VAR END_PROGRAM");
        Check.refused(17, block + "FUNCTION f : INT VAR x : ^g; END_VAR END_FUNCTION PROGRAM p END_PROGRAM");
        Check.refused(17, "FUNCTION f : INT VAR x : ^TON; END_VAR END_FUNCTION PROGRAM p END_PROGRAM");
    }

    private static void notSimple() {
        Check.sentence("5: 43: in VAR_INPUT or VAR_OUTPUT, and not simple.");
        String[] types = {"BOOL", "INT", "DINT", "ARRAY [1 .. 2] OF INT", "TON", "ARRAY [1 .. 1] OF BOOL"};
        for (int i = 0; i < types.length; i++) {
            for (String word : new String[] {"VAR", "VAR_INPUT", "VAR_OUTPUT"}) {
                judged(i < 3 || word.equals("VAR") ? 0 : 43, "FUNCTION_BLOCK f " + word + " ^x, y : " + types[i]
                    + "; END_VAR END_FUNCTION_BLOCK PROGRAM p END_PROGRAM");
            }
        }
    }

    private static void typesAtPlaces() {
        Check.sentence("15: with 7, it is not BOOL for X, INT for W.");
        String[] types = {"BOOL", "INT", "DINT", "ARRAY [1 .. 1] OF BOOL", "ARRAY [1 .. 1] OF INT", "TON"};
        for (String area : "IX QX MX IW QW MW".split(" ")) {
            for (int i = 0; i < types.length; i++) {
                declared(i == (area.endsWith("X") ? 0 : 1) ? 0 : 15, "^x AT %" + area + "7 : " + types[i] + ";");
            }
        }
    }

    private static void constantsOfInt() {
        Check.sentence("18: .. it is below -32,768 or above 32,767 for INT");
        for (String type : new String[] {"INT", "ARRAY [1 .. 2] OF INT"}) {
            for (long n : new long[] {-2147483647, -65536, -32770, -32769, -32768, -32767, -1, 0, 1, 32766, 32767, 32768, 32769,
                65535, 65536, 2147483647}) {
                declared(n >= -32768 && n <= 32767 ? 0 : 18, "^x, y : " + type + " := " + n + ";");
                declared(0, "x : " + type.replace("INT", "DINT") + " := " + n + ";");
            }
            declared(0, "x : " + type + " := 16#7FFF;");
            declared(18, "^x : " + type + " := 16#8000;");
            declared(0, "x : " + type + " := -16#8000;");
            declared(18, "^x : " + type + " := T#33s;");
        }
        declared(0, "x AT %QW1 : INT := 32767;");
        declared(18, "^x AT %QW1 : INT := 32768;");
    }

    private static void constantsOfOthers() {
        Check.sentence("18: .. the type is an instance; or 7 is IX or IW; the constant is 31 and its .. type not BOOL, or ..");
        String[] constants = {"TRUE", "FALSE", "0", "1", "-1"};
        for (int i = 0; i < constants.length; i++) {
            boolean truth = i < 2;
            String given = " := " + constants[i] + ";";
            declared(truth ? 0 : 18, "^x : BOOL" + given);
            declared(truth ? 0 : 18, "^x : ARRAY [1 .. 2] OF BOOL" + given);
            for (String type : new String[] {"INT", "DINT"}) {
                declared(truth ? 18 : 0, "^x : " + type + given);
                declared(truth ? 18 : 0, "^x : ARRAY [1 .. 2] OF " + type + given);
            }
            declared(18, "^x : TON" + given);
            declared(18, "^x : RS" + given);
            declared(18, "^x AT %IX3 : BOOL" + given);
            declared(18, "^x AT %IW3 : INT" + given);
            declared(truth ? 0 : 18, "^x AT %QX3 : BOOL" + given);
            declared(truth ? 0 : 18, "^x AT %MX3 : BOOL" + given);
            declared(truth ? 18 : 0, "^x AT %QW3 : INT" + given);
            declared(truth ? 18 : 0, "^x AT %MW3 : INT" + given);
        }
        declared(0, "x AT %IX3 : BOOL; y AT %IW3 : INT; z : TON;");
    }

    private static void cellsOfABlock() {
        Check.sentence("19: the block's cells (see CELLS) are more than 4,096 behind it");
        // A program has 960 before its variables: twelve arrays of 256 leave 64.
        String twelve = Check.names(0, 12) + " : ARRAY [1 .. 256] OF INT;";
        declared(0, twelve + " ^x : ARRAY [1 .. 64] OF INT;");
        declared(19, twelve + " ^x : ARRAY [1 .. 65] OF INT;");
        declared(19, "^" + Check.names(0, 13) + " : ARRAY [1 .. 256] OF INT;");
        declared(0, twelve + Check.names(20, 64) + " : BOOL;");
        declared(19, twelve + "^" + Check.names(20, 65) + " : BOOL;");
        declared(19, twelve + Check.names(20, 64) + " : BOOL; ^x : BOOL;");
        declared(0, twelve + Check.names(20, 64) + " : BOOL; x AT %QX5 : BOOL; y AT %MW5 : INT;");
        declared(0, twelve + Check.names(20, 10) + " : TON; x : RS; y : BOOL;");
        declared(19, twelve + Check.names(20, 10) + " : TON; x : RS; ^y, z : BOOL;");
        declared(19, twelve + "^" + Check.names(20, 11) + " : TON;");
        declared(0, twelve + Check.names(20, 21) + " : SR; x : BOOL;");
        declared(19, twelve + "^" + Check.names(20, 22) + " : SR;");
        // A function block has none before.
        String sixteen = Check.names(0, 16) + " : ARRAY [1 .. 256] OF DINT;";
        block(0, sixteen, "");
        block(19, sixteen + " ^x : BOOL;", "");
        block(19, "^" + sixteen.replace(" :", ", x :"), "");
        block(0, sixteen.replace("1 .. 256", "1 .. 255") + Check.names(20, 16) + " : BOOL;", "");
        block(19, sixteen.replace("1 .. 256", "1 .. 255") + "^" + Check.names(20, 17) + " : BOOL;", "");
        // An instance has all cells of its block.
        String large = "FUNCTION_BLOCK g VAR " + Check.names(0, 15) + " : ARRAY [1 .. 256] OF INT; z : ARRAY [1 .. ";
        String end = "] OF INT; END_VAR LADDER END_LADDER END_FUNCTION_BLOCK FUNCTION_BLOCK h VAR ^w : g; END_VAR"
            + " END_FUNCTION_BLOCK PROGRAM p END_PROGRAM";
        judged(0, large + "100" + end);
        judged(19, large + "101" + end);
    }

    private static void block(int fault, String marked, String body) {
        judged(fault, "FUNCTION_BLOCK f VAR " + marked + " END_VAR " + body + " END_FUNCTION_BLOCK PROGRAM p END_PROGRAM");
    }

    private static void cellsBehindVariables() {
        Check.sentence("19: .. (those for its variables alone: what comes behind these is not looked at)");
        String full = Check.names(0, 15) + " : ARRAY [1 .. 256] OF INT; a : ARRAY [1 .. 254] OF INT; x : INT; b : BOOL;";
        block(0, full, "LADDER END_LADDER");
        block(0, full, "LADDER RUNG >b <b; END_RUNG END_LADDER");
        block(0, full, Check.repeat("CASE x OF END_CASE; FOR x := 1 TO 2 DO END_FOR;", 5));
        block(19, full + " ^y : BOOL;", "LADDER END_LADDER");
        TypeRules rules = Check.right("FUNCTION_BLOCK f VAR " + full + " END_VAR LADDER RUNG >b <b; END_RUNG END_LADDER"
            + " END_FUNCTION_BLOCK PROGRAM p END_PROGRAM");
        Check.is("frame of more than 4,096 cells", rules.frame(0), 4096 + 2 + 156);
        String program = "PROGRAM p VAR " + Check.names(0, 12) + " : ARRAY [1 .. 256] OF INT; a : ARRAY [1 .. 63] OF INT;"
            + " x : INT; END_VAR ";
        Check.right(program + "LADDER END_LADDER END_PROGRAM");
        Check.right(program + "CASE x OF END_CASE; FOR x := 1 TO 2 DO END_FOR; END_PROGRAM");
    }

    private static void variablesOfThisBlock() {
        Check.sentence("NAMES of variables ..: FAULT 20: no variable of this block. 21: not simple, no array, no instance");
        String[] names = {"z", "p", "fn", "fb", "i1", "s", "TON", "MAX", "x", "a", "t"};
        for (int i = 0; i < names.length; i++) {
            String name = names[i];
            int simple = i < 8 ? 20 : i == 8 ? 0 : 21;
            int array = i < 8 ? 20 : i == 9 ? 0 : 21;
            int instance = i < 8 ? 20 : i == 10 ? 0 : 21;
            body(simple, "^" + name + " := 1;");
            body(simple, "d := ^" + name + ";");
            body(simple, "^FOR " + name + " := 1 TO 2 DO END_FOR;");
            body(array, "^" + name + "[1] := 1;");
            body(array, "d := ^" + name + "[1];");
            body(instance, "^" + name + "();");
            body(instance, "b := ^" + name + ".Q;");
            body(simple == 0 ? 41 : simple, "LADDER RUNG " + (simple == 0 ? "^" : "/^") + name + "; END_RUNG END_LADDER");
            body(simple == 0 ? 41 : simple, "LADDER RUNG " + (simple == 0 ? "^(" : "(^") + name + "); END_RUNG END_LADDER");
            body(instance, "LADDER RUNG >^" + name + ".Q; END_RUNG END_LADDER");
        }
    }

    private static void body(int fault, String marked) {
        judged(fault, HEAD + marked + TAIL);
    }

    private static void outputsOfInstances() {
        Check.sentence("33: 23: the 6 in it is no output of the instance.");
        body(0, "x := ^u.o;");
        body(0, "x := ^u.O;");
        for (String name : "s n h q z u fb o1".split(" ")) {
            body(23, "x := ^u." + name + ";");
        }
        body(0, "b := ^t.Q; d := t.ET;");
        for (String name : "IN PT CV Q1 t x Q2 ET_".split(" ")) {
            body(23, "b := ^t." + name + ";");
        }
    }

    private static void inputsOfInstances() {
        Check.sentence("14: 32: no input of the instance's block (but if 13 will break 20 or 21: nothing is asked of its 14s)");
        body(0, "u(^s := b); u(n := d); u(S := b, N := x);");
        for (String name : "o h IN z u fb s1".split(" ")) {
            body(32, "u(^" + name + " := b);");
            body(32, "u(s := b, ^" + name + " := b);");
        }
        for (String name : "Q ET CU PV R t x".split(" ")) {
            body(32, "t(^" + name + " := b);");
        }
        for (String parameters : new String[] {"", "foo := 1", "IN := x", "IN := b, IN := b", "foo := a[0], foo := TRUE"}) {
            body(20, "^z(" + parameters + ");");
            body(21, "^x(" + parameters + ");");
            body(21, "^a(" + parameters + ");");
        }
        body(20, "z(foo := ^w);");
        body(27, "x(foo := 1 ^+ b);");
    }

    private static void oneInputTwice() {
        Check.sentence("14: 33: one before in the same 13");
        body(0, "t(IN := b, PT := d); t(IN := b); t(PT := d, IN := b);");
        body(33, "t(IN := b, ^IN := b);");
        body(33, "t(IN := b, ^in := b);");
        body(33, "t(IN := b, PT := d, ^IN := b);");
        body(33, "t(IN := b, PT := d, ^PT := d);");
        body(33, "t(IN := b, ^IN := 1);");
        body(31, "t(^IN := 1, IN := b);");
    }

    private static void assignedInputs() {
        Check.sentence("ASSIGNED may not be (29): a VAR_INPUT; a variable at IX or IW");
        String[] names = {"x", "b", "ix", "qx", "mx", "iw", "qw", "mw"};
        for (int i = 0; i < names.length; i++) {
            boolean truth = i >= 1 && i <= 4;
            boolean input = i == 2 || i == 5;
            body(input ? 29 : 0, names[i] + " ^:= " + (truth ? "TRUE;" : "1;"));
            body(input ? 29 : 31, names[i] + " ^:= " + (truth ? "1;" : "TRUE;"));
            body(truth ? 22 : input ? 29 : 0, "^FOR " + names[i] + " := 1 TO 2 DO END_FOR;");
            body(truth ? input ? 29 : 0 : 41, "LADDER RUNG - ^(" + names[i] + "); END_RUNG END_LADDER");
        }
        String[] sections = {"VAR", "VAR_INPUT", "VAR_OUTPUT"};
        for (int i = 0; i < 3; i++) {
            String head = "FUNCTION_BLOCK f " + sections[i] + " k : INT; c : BOOL; END_VAR ";
            String tail = " END_FUNCTION_BLOCK PROGRAM p END_PROGRAM";
            judged(i == 1 ? 29 : 0, head + "k ^:= 1;" + tail);
            judged(i == 1 ? 29 : 0, head + "^FOR k := 1 TO 2 DO END_FOR;" + tail);
            judged(i == 1 ? 29 : 0, head + "LADDER RUNG ^(c); END_RUNG END_LADDER" + tail);
        }
        Check.right("FUNCTION f : INT VAR_INPUT i : INT; END_VAR f := i; END_FUNCTION PROGRAM p END_PROGRAM");
        Check.refused(29, "FUNCTION f : INT VAR_INPUT i : INT; END_VAR i ^:= f; END_FUNCTION PROGRAM p END_PROGRAM");
    }

    private static void assignedLoopNames() {
        Check.sentence("nor (30) the name of a 19 in which it stands .. (also if the 19 in which it stands has it)");
        body(0, "FOR x := 1 TO 2 DO y := x; END_FOR; x := 1;");
        body(30, "FOR x := 1 TO 2 DO x ^:= 1; END_FOR;");
        body(0, "x := 1; FOR x := 1 TO 2 DO END_FOR; FOR x := 1 TO 2 DO END_FOR;");
        body(30, "FOR x := 1 TO 2 DO ^FOR x := 1 TO 2 DO END_FOR; END_FOR;");
        body(0, "FOR x := 1 TO 2 DO FOR y := 1 TO 2 DO END_FOR; FOR y := 1 TO 2 DO END_FOR; y := 1; END_FOR;");
        body(30, "FOR x := 1 TO 2 DO FOR y := 1 TO 2 DO END_FOR; x ^:= 1; END_FOR;");
        body(30, "FOR x := 1 TO 2 DO FOR y := 1 TO 2 DO x ^:= 1; END_FOR; END_FOR;");
        body(30, "FOR x := 1 TO 2 DO FOR y := 1 TO 2 DO y ^:= 1; END_FOR; END_FOR;");
        body(30, "FOR x := 1 TO 2 DO FOR y := 1 TO 2 DO ^FOR x := 1 TO 2 DO END_FOR; END_FOR; END_FOR;");
        body(30, "FOR x := 1 TO 2 DO IF b THEN x ^:= 1; END_IF; END_FOR;");
        body(30, "FOR x := 1 TO 2 DO CASE y OF 1 : x ^:= TRUE; END_CASE; END_FOR;");
        body(0, "FOR x := 1 TO 2 DO a[x] := x; t(PT := x); END_FOR;");
    }

    private static void ranges() {
        Check.sentence("18: 35: a 31; or the first one is greater.");
        for (long n : new long[] {-2147483647L, -32768, -1, 0, 1, 32767, 2147483647L}) {
            body(0, "CASE x OF " + n + " : " + n + " .. " + n + " : END_CASE;");
            if (n < 2147483647L) {
                body(0, "CASE x OF " + n + " .. " + (n + 1) + " : END_CASE;");
                body(35, "CASE x OF 0, ^" + (n + 1) + " .. " + n + " : END_CASE;");
            }
        }
        body(0, "CASE x OF -2147483647 .. 2147483647 : END_CASE;");
        body(35, "CASE x OF ^2147483647 .. -2147483647 : END_CASE;");
        for (String range : new String[] {"TRUE", "FALSE", "TRUE .. 2", "0 .. TRUE", "FALSE .. 1", "-1 .. FALSE"}) {
            body(35, "CASE x OF ^" + range + " : END_CASE;");
        }
    }

    private static void loop(int fault, String loop) {
        body(fault, "^FOR " + loop + " DO END_FOR;");
    }

    private static void constantsOfLoops() {
        Check.sentence("19: 36: a constant is 31, or not in the type's range");
        for (String truth : new String[] {"TRUE", "FALSE"}) {
            loop(36, "x := " + truth + " TO 2");
            loop(36, "d := 1 TO " + truth);
            loop(36, "x := 1 TO 2 BY " + truth);
        }
        for (long n : new long[] {-2147483647L, -32770, -32769, -32768, -32767, 32766, 32767, 32768, 32769, 2147483647L}) {
            boolean within = n >= -32768 && n <= 32767;
            loop(within ? 0 : 36, "x := " + n + " TO " + (n < 0 ? -32768 : 32767));
            loop(within ? 0 : 36, "x := 0 TO " + n + (n < 0 ? " BY -1" : ""));
            loop(within ? 0 : 36, "x := 1 TO 2 BY " + n);
            loop(0, "d := " + n + " TO " + n);
            loop(0, "d := 1 TO 2 BY " + n);
        }
    }

    private static void stepsOfLoops() {
        Check.sentence("19: 36: .. the third is 0");
        for (String loop : new String[] {"x := 1 TO 2", "x := 2 TO 1", "x := 1 TO 1", "d := 0 TO 0", "d := 1 TO 2"}) {
            loop(0, loop);
            loop(36, loop + " BY 0");
            loop(36, loop + " BY -0");
            loop(0, loop + " BY 1");
            loop(0, loop + " BY -1");
        }
    }

    private static void timesOfLoops() {
        Check.sentence("19: 36: .. more than 1,000,000 times (none, if the third leads away ..; else .. cut off, and one more ..)");
        for (long step : new long[] {1, 2, 3, 7, 1000, 2147}) {
            long most = 999999 * step;
            String by = step == 1 ? "" : " BY " + step;
            loop(0, "d := 0 TO " + most + by);
            loop(0, "d := 0 TO " + (most + step - 1) + by);
            loop(36, "d := 0 TO " + (most + step) + by);
            loop(36, "d := 0 TO " + (most + step + 1) + by);
            loop(0, "d := " + (most + step - 1) + " TO 0 BY -" + step);
            loop(36, "d := " + (most + step) + " TO 0 BY -" + step);
            loop(0, "d := -5 TO " + (most + step - 6) + by);
            loop(36, "d := -5 TO " + (most + step - 5) + by);
            // None at all, as the third leads away.
            loop(0, "d := " + (most + step) + " TO 0" + by);
            loop(0, "d := 0 TO " + (most + step) + " BY -" + step);
        }
        loop(36, "d := -2147483647 TO 2147483647");
        loop(36, "d := 2147483647 TO -2147483647 BY -1");
        loop(0, "d := 2147483647 TO -2147483647");
        loop(0, "d := -2147483647 TO 2147483647 BY -1");
        loop(36, "d := -2147483647 TO 2147483647 BY 4294");
        loop(0, "d := -2147483647 TO 2147483647 BY 4295");
        loop(36, "d := 2147483647 TO -2147483647 BY -4294");
        loop(0, "d := 2147483647 TO -2147483647 BY -4295");
        loop(0, "d := -2147483647 TO 2147483647 BY 2147483647");
        loop(0, "x := -32768 TO 32767");
        loop(0, "x := 32767 TO -32768 BY -1");
    }

    private static void exits() {
        Check.sentence("20: 37: in no 19.");
        body(37, "^EXIT;");
        body(0, "FOR x := 1 TO 2 DO ^EXIT; END_FOR;");
        body(37, "FOR x := 1 TO 2 DO END_FOR; ^EXIT;");
        body(37, "IF b THEN CASE x OF 1 : ^EXIT; END_CASE; END_IF;");
        body(0, "FOR x := 1 TO 2 DO IF b THEN CASE x OF 1 : EXIT; ELSE EXIT; END_CASE; ELSE EXIT; END_IF; END_FOR;");
        body(0, "FOR x := 1 TO 2 DO FOR y := 1 TO 2 DO EXIT; END_FOR; EXIT; END_FOR;");
        body(0, "RETURN; IF b THEN RETURN; END_IF;");
    }

    private static void rungs(int fault, String marked) {
        body(fault, "LADDER " + marked + " END_LADDER");
    }

    private static void rowsOfRungs() {
        Check.sentence("23: 38: more than 12 rows");
        for (int rows = 1; rows <= 15; rows++) {
            rungs(rows <= 12 ? 0 : 38, "^RUNG " + Check.repeat("b (c);", rows) + " END_RUNG");
            rungs(rows <= 12 ? 0 : 38, "RUNG b; END_RUNG ^RUNG " + Check.repeat("-;", rows) + " END_RUNG");
        }
        rungs(0, Check.repeat("RUNG " + Check.repeat("b;", 12) + " END_RUNG ", 3));
        rungs(0, "RUNG " + Check.repeat(Check.repeat("- ", 12) + ";", 12) + " END_RUNG");
        rungs(38, "^RUNG " + Check.repeat(Check.repeat("- ", 12) + ";", 13) + " END_RUNG");
    }

    private static void cellsOfRows() {
        Check.sentence("23: 38: .. a row with more than 12 cells (29 is none), or another number than the first one");
        for (int cells = 1; cells <= 15; cells++) {
            int fault = cells <= 12 ? 0 : 38;
            rungs(fault, "^RUNG " + Check.repeat("- ", cells) + "; END_RUNG");
            rungs(fault, "^RUNG " + Check.repeat("b ", cells - 1) + "(c); END_RUNG");
            rungs(fault, "^RUNG " + Check.repeat("*|", cells - 1) + "*; " + Check.repeat("-", cells) + "; END_RUNG");
            rungs(cells == 12 ? 0 : 38, "^RUNG " + Check.repeat("-", 12) + ";" + Check.repeat("-", cells) + "; END_RUNG");
            rungs(cells == 12 ? 0 : 38, "^RUNG " + Check.repeat("-", cells) + ";" + Check.repeat("-", 12) + "; END_RUNG");
            rungs(cells == 3 ? 0 : 38, "^RUNG ---; -|--; " + Check.repeat("-", cells) + "; END_RUNG");
        }
        rungs(0, "RUNG -; END_RUNG RUNG --; END_RUNG RUNG ---; ---; END_RUNG");
    }

    private static void coils() {
        Check.sentence("28: 39: not the last in its row");
        rungs(0, "RUNG ^(c); END_RUNG RUNG b ^(c); - (c); END_RUNG");
        for (String more : new String[] {"b", "-", "*", "(c)", "| b", "|-", "t.Q", "(x)", "(ix)"}) {
            rungs(39, "RUNG b ^(c) " + more + "; - - - ; END_RUNG");
            rungs(39, "RUNG - - - ; b ^(/c) " + more + "; END_RUNG");
        }
        rungs(39, "RUNG ^(x) b; END_RUNG");
        rungs(39, "RUNG ^(ix) b; END_RUNG");
    }

    private static void links() {
        Check.sentence("29: 40: in the last row.");
        rungs(0, "RUNG b|b; b b; END_RUNG");
        rungs(40, "RUNG b ^| b; END_RUNG");
        rungs(0, "RUNG b|b; b|b; b b; END_RUNG");
        rungs(40, "RUNG b|b; b ^| b; END_RUNG");
        rungs(40, "RUNG b b; b|b; b ^| b | b; END_RUNG");
        rungs(40, "RUNG b|b; b b; END_RUNG RUNG b ^| b; END_RUNG RUNG b|b; b b; END_RUNG");
    }

    private static void inputsOfFunctions() {
        Check.sentence("1 (behind its children): 44: more than 8 inputs.");
        for (int n = 0; n <= 12; n++) {
            String inputs = n == 0 ? "" : Check.names(0, n) + " : INT;";
            judged(n <= 8 ? 0 : 44, "^FUNCTION f : INT VAR_INPUT " + inputs
                + " END_VAR END_FUNCTION PROGRAM p END_PROGRAM");
            judged(n <= 8 ? 0 : 44, "FUNCTION e : INT END_FUNCTION ^FUNCTION f : INT VAR_INPUT " + inputs.replace(",", " : INT; ")
                + " END_VAR VAR k, l : BOOL; END_VAR END_FUNCTION PROGRAM p END_PROGRAM");
            Check.right("FUNCTION_BLOCK f VAR_INPUT " + inputs + " END_VAR END_FUNCTION_BLOCK PROGRAM p END_PROGRAM");
            Check.right("FUNCTION f : INT VAR " + inputs + " END_VAR END_FUNCTION PROGRAM p END_PROGRAM");
        }
        String split = "^FUNCTION f : INT VAR_INPUT " + Check.names(0, 4) + " : INT; END_VAR VAR k : INT; END_VAR VAR_INPUT ";
        judged(0, split + Check.names(4, 4) + " : BOOL; END_VAR END_FUNCTION PROGRAM p END_PROGRAM");
        judged(44, split + Check.names(4, 5) + " : BOOL; END_VAR END_FUNCTION PROGRAM p END_PROGRAM");
        // Behind its children: what is wrong in the function is told first, what is wrong behind it is not.
        judged(37, "FUNCTION f : INT VAR_INPUT " + Check.names(0, 9) + " : INT; END_VAR ^EXIT; END_FUNCTION");
        judged(44, "^FUNCTION f : INT VAR_INPUT " + Check.names(0, 9) + " : INT; END_VAR END_FUNCTION PROGRAM p EXIT;"
            + " END_PROGRAM");
    }

    private static void cellsOfAll() {
        Check.sentence("42: the cells of all FUNCTIONS and the PROGRAM are more than 8,192.");
        // 25 functions of 157 cells and a program of 960, 3072, 64 and 156 have 8,177.
        StringBuilder functions = new StringBuilder();
        for (int i = 0; i < 25; i++) {
            functions.append("FUNCTION g").append((char) ('a' + i)).append(":INT LADDER END_LADDER END_FUNCTION ");
        }
        String program = "PROGRAM p VAR " + Check.names(0, 12) + " : ARRAY [1 .. 256] OF INT;"
            + " x : ARRAY [1 .. 64] OF INT; END_VAR LADDER END_LADDER END_PROGRAM";
        for (int cells = 13; cells <= 18; cells++) {
            String last = "FUNCTION h:INT VAR " + Check.names(0, cells - 1) + " : INT; END_VAR END_FUNCTION ";
            String text = " " + functions + last + program;
            if (cells <= 15) {
                Check.is("count(4) with " + cells, Check.right(text).count(4), 8177 + cells);
            } else {
                Check.refusedAt(42, 0, text);
            }
            // Cells of a function block are not among them.
            String block = "FUNCTION_BLOCK h VAR " + Check.names(0, cells) + " : INT; END_VAR END_FUNCTION_BLOCK ";
            Check.is("count(4) with a block", Check.right(functions + block + program).count(4), 8177);
        }
        Check.refusedAt(10, 0, functions + "FUNCTION h:INT VAR " + Check.names(0, 40) + " : INT; END_VAR END_FUNCTION ");
    }
}

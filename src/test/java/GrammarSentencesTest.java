/** GRAMMAR: the first token that can't come, the text's end, and DEPTH, on both sides of each boundary. */
public final class GrammarSentencesTest {
    /** A right text with every form of the grammar, a blank behind each token. */
    private static final String[] TOKENS = ("FUNCTION f : INT VAR_INPUT i , j : INT ; END_VAR VAR l : DINT := - 5 ; END_VAR"
        + " f := i ; END_FUNCTION FUNCTION_BLOCK g VAR_INPUT s : BOOL ; END_VAR VAR_OUTPUT o : BOOL := TRUE ; END_VAR"
        + " LADDER RUNG / s | > s ( + o ) ; - * ( o ) ; * - ( / o ) ; END_RUNG RUNG < s ( - o ) ; END_RUNG END_LADDER"
        + " END_FUNCTION_BLOCK FUNCTION_BLOCK h LADDER END_LADDER END_FUNCTION_BLOCK FUNCTION k : BOOL END_FUNCTION"
        + " PROGRAM p VAR END_VAR VAR x AT %QW5 : INT ; b : BOOL ; a : ARRAY [ - 1 .. 2 ] OF DINT := 16#F ; t : TON ; u : g ;"
        + " END_VAR ; x := 1 + 2 * ( x - 3 ) MOD - 4 ; a [ x + 1 ] := f ( x , 2 ) ; b := NOT b AND t . Q OR a [ 1 ] <> 2 &"
        + " TRUE ; b := k ( ) XOR x = 1 = ( x < 2 ) ; b := x >= 1 ; b := x <= 1 ; t ( ) ; u ( s := b ) ; t ( IN := FALSE ,"
        + " PT := T#5S ) ; IF b THEN RETURN ; ELSIF x > 2 THEN ; ELSIF b THEN ELSE ; END_IF ; CASE x / 2 OF 1 : ; 2 , 3 .. 4 ,"
        + " - 7 : x := 2 ; ELSE ; END_CASE ; CASE x OF END_CASE ; FOR x := 1 TO 10 BY 2 DO EXIT ; END_FOR ; END_PROGRAM")
        .split(" ");
    private static final String HEAD = "FUNCTION no : BOOL END_FUNCTION FUNCTION id : DINT VAR_INPUT i : DINT; END_VAR"
        + " END_FUNCTION PROGRAM p VAR " + Check.names(0, 61) + " : INT; x : DINT; b : BOOL; q : ARRAY [0 .. 3] OF DINT;"
        + " t : TON; END_VAR ";
    private static final String TAIL = " END_PROGRAM";
    private static final String[] SIGNS = {"OR", "XOR", "AND", "&", "=", "<>", "<", ">", "<=", ">=", "+", "-", "*", "/",
        "MOD"};

    public static void main(String[] args) {
        endsTooEarly();
        badlyWrittenAtEveryPlace();
        cannotComeAtEveryPlace();
        firstOfSeveral();
        nothingOrOneOrMany();
        statementsOpen();
        signsBeforeOperandsOpen();
        bracketsOpen();
        bracketsThatEndAtOnce();
        signsBetweenOperandsOpen();
        signsStayOpenInTheOutermost();
        outermostExpressions();
        allKindsTogether();
        whatEndedIsOpenNoMore();
        onlyIfItCanCome();
        neverOpen();
        cellsAreNotOpen();
        Check.finish("GrammarSentencesTest");
    }

    private static String first(int tokens) {
        StringBuilder text = new StringBuilder();
        for (int i = 0; i < tokens; i++) {
            text.append(i == 0 ? "" : " ").append(TOKENS[i]);
        }
        return text.toString();
    }

    /** Whether a block may begin behind so many tokens. */
    private static boolean isBetweenBlocks(int tokens) {
        String before = tokens == 0 ? "" : TOKENS[tokens - 1];
        return before.isEmpty() || before.equals("END_FUNCTION") || before.equals("END_FUNCTION_BLOCK")
            || before.equals("END_PROGRAM");
    }

    private static void endsTooEarly() {
        Check.sentence("FAULT 6 .. at the text's end (how many bytes it has) if the text ends too early");
        for (int i = 0; i < TOKENS.length; i++) {
            String text = first(i);
            for (String blanks : new String[] {"", " ", "\n\t \r", " (* ; *) ", "(**)"}) {
                String all = text + blanks;
                if (isBetweenBlocks(i)) {
                    Check.refusedAt(10, 0, all);
                } else {
                    Check.refusedAt(6, all.length(), all);
                }
            }
        }
        Check.right(first(TOKENS.length));
        Check.right(first(TOKENS.length) + " \n");
        Check.refusedAt(6, 8192, Check.repeat(" ", 8192 - 9) + "PROGRAM p");
        Check.refusedAt(6, 8192, "PROGRAM p" + Check.repeat(" ", 8192 - 9));
    }

    private static void badlyWrittenAtEveryPlace() {
        Check.sentence("The first token that is badly written (its fault) .. is told");
        String[] bad = {"#", "(*", Check.repeat("n", 33), "1x", "%Z1"};
        for (int i = 0; i <= TOKENS.length; i++) {
            for (int k = 0; k < bad.length; k++) {
                Check.refused(k + 1, first(i) + " ^" + bad[k] + " # 1x");
            }
        }
    }

    private static void cannotComeAtEveryPlace() {
        Check.sentence("can't come, as no text of the grammar begins with all before it and it .. FAULT 6 where it begins");
        for (int i = 0; i <= TOKENS.length; i++) {
            String before = first(i);
            Check.refused(6, before + " ^" + (isBetweenBlocks(i) ? "END_PROGRAM" : "PROGRAM"));
            String last = i == 0 ? "" : TOKENS[i - 1];
            String next = i < TOKENS.length ? TOKENS[i] : "";
            // Behind a declaration's names AT can come.
            if (!next.equals("AT") && !next.equals(":") && !next.equals(",")) {
                Check.refused(6, before + " ^AT");
            }
            if (!last.equals("OF") && !last.equals(":") && !last.equals(";") && !last.equals("ELSE")) {
                Check.refused(6, before + " ^END_CASE");
            }
            if (!last.equals("LADDER") && !last.equals("END_RUNG")) {
                Check.refused(6, before + " ^RUNG");
            }
            Check.refused(6, before + " ^" + (last.equals("AT") ? "AT" : "%IX5"));
        }
    }

    private static void firstOfSeveral() {
        Check.sentence("The first token .. is told");
        Check.refused(6, "PROGRAM p ^) # 1x % (*");
        Check.refused(1, "PROGRAM p ^# ) 1x % (*");
        Check.refused(4, "PROGRAM p ^1x # ) % (*");
        Check.refused(5, "PROGRAM p ^% # ) 1x (*");
        Check.refused(2, "PROGRAM p ^(* # ) 1x %");
        Check.refused(6, "PROGRAM p VAR x : INT; x : INT; END_VAR END_PROGRAM ^x");
        Check.refused(6, "PROGRAM p END_PROGRAM PROGRAM p END_PROGRAM ^1");
    }

    private static void nothingOrOneOrMany() {
        Check.sentence("[x] is x or nothing, {x} any number of x");
        for (int n = 0; n <= 3; n++) {
            Check.right("PROGRAM p " + Check.repeat("VAR END_VAR ", n) + "END_PROGRAM");
            Check.right("PROGRAM p VAR " + (n == 0 ? "" : Check.names(0, n) + " : INT;") + " END_VAR END_PROGRAM");
            Check.right("PROGRAM p " + Check.repeat("; ", n) + "END_PROGRAM");
            Check.right("PROGRAM p LADDER " + Check.repeat("RUNG - ; END_RUNG ", n) + "END_LADDER END_PROGRAM");
            fine("IF b THEN " + Check.repeat("ELSIF b THEN ", n) + "END_IF;");
            fine("CASE x OF " + Check.repeat("1 : ", n) + "END_CASE;");
            fine("CASE x OF 0 " + Check.repeat(", 1 ", n) + ": END_CASE;");
            fine("IF b THEN " + Check.repeat("RETURN; ", n) + "ELSE " + Check.repeat(";", n) + "END_IF;");
        }
        Check.refused(6, "PROGRAM p LADDER RUNG ^END_RUNG");
        Check.refused(6, "PROGRAM p LADDER RUNG ^; END_RUNG");
        Check.right("PROGRAM p LADDER RUNG -; END_RUNG RUNG -; -; END_RUNG RUNG -|-; --; END_RUNG END_LADDER END_PROGRAM");
        refused(6, "CASE x OF ^: END_CASE;");
        refused(6, "IF b THEN ELSE ^ELSE END_IF;");
        refused(6, "CASE x OF ELSE ^ELSE END_CASE;");
        refused(6, "FOR x := 1 TO 2 BY 1 ^BY 1 DO END_FOR;");
        refused(6, "CASE x OF 1 .. 2 ^.. 3 : END_CASE;");
        Check.refused(6, "PROGRAM p VAR x : INT := 1 ^:= 1;");
        Check.refused(6, "PROGRAM p VAR x AT %IX1 ^AT %IX2 : BOOL;");
        Check.refused(6, "PROGRAM p VAR ^: INT;");
        Check.refused(6, "PROGRAM p LADDER END_LADDER ^LADDER");
    }

    private static void fine(String statements) {
        Check.right(HEAD + statements + TAIL);
    }

    private static void refused(int fault, String marked) {
        Check.refused(fault, HEAD + marked + TAIL);
    }

    /** IFs of this depth around the statements. */
    private static String in(int depth, String statements) {
        return Check.repeat("IF b THEN ", depth) + statements + Check.repeat("END_IF;", depth);
    }

    /** Sixty such levels are fine, and the 61st is refused where it begins. */
    private static void nested(String open, String inner, String close) {
        for (int most : new int[] {1, 59, 60}) {
            fine(Check.repeat(open, most) + inner + Check.repeat(close, most));
        }
        for (int more : new int[] {61, 62, 100}) {
            refused(7, Check.repeat(open, 60) + "^" + Check.repeat(open, more - 60) + inner + Check.repeat(close, more));
        }
    }

    private static void statementsOpen() {
        Check.sentence("DEPTH: IF, CASE, FOR .. are open until what they begin ends; the 61st is FAULT 7 where it begins");
        nested("IF b THEN ", "x := x;", "END_IF;");
        nested("IF b THEN ELSIF b THEN ", ";", "END_IF;");
        nested("IF b THEN ELSE ", "", "END_IF;");
        nested("CASE x OF 1 : ", "x := 1;", "END_CASE;");
        nested("CASE x OF 1 : ; 2, 3 : ", ";", "END_CASE;");
        nested("CASE x OF ELSE ", "", "END_CASE;");
        StringBuilder loops = new StringBuilder();
        for (int i = 0; i < 60; i++) {
            loops.append("FOR ").append(Check.names(i, 1)).append(" := 1 TO 2 DO ");
        }
        String ends = Check.repeat("END_FOR;", 60);
        fine(loops + "EXIT;" + ends);
        refused(7, loops + "^FOR " + Check.names(60, 1) + " := 1 TO 2 DO END_FOR;" + ends);
        refused(7, loops + "^IF b THEN END_IF;" + ends);
        refused(7, loops + "^CASE x OF END_CASE;" + ends);
        for (String statement : new String[] {"IF b THEN END_IF;", "CASE x OF END_CASE;", "FOR x := 1 TO 2 DO END_FOR;"}) {
            fine(in(59, statement + statement));
            refused(7, in(60, "^" + statement));
        }
    }

    /** As nested(), in an expression. */
    private static void nestedOperand(String open, String inner, String close) {
        for (int outside : new int[] {0, 1, 30, 59}) {
            int most = 60 - outside;
            fine(in(outside, "x := " + Check.repeat(open, most) + inner + Check.repeat(close, most) + ";"));
            int at = open.endsWith("(") || open.endsWith("[") ? open.length() - 1 : 0;
            refused(7, in(outside, "x := " + Check.repeat(open, most) + open.substring(0, at) + "^" + open.substring(at) + inner
                + Check.repeat(close, most + 1) + ";"));
        }
    }

    private static void signsBeforeOperandsOpen() {
        Check.sentence("DEPTH: '-' and NOT before operands .. are open until what they begin ends");
        nestedOperand("-", "x", "");
        nestedOperand("- ", "1", "");
        nestedOperand("NOT ", "x", "");
        fine(in(59, "x := -x; b := NOT b; x := - 1;"));
        refused(7, in(59, "x := -q^[0];"));
        refused(7, in(59, "b := NOT no^();"));
        refused(7, in(59, "x := -^(x);"));
        refused(7, in(59, "b := NOT ^NOT b;"));
        refused(7, in(60, "x := ^-x;"));
        refused(7, in(60, "b := ^NOT b;"));
        fine(in(60, "x := x; b := TRUE;"));
        // Behind its operand the sign is open no more.
        fine(in(58, "x := -x + -x + x;"));
        refused(7, in(58, "x := -x + -^-x;"));
        refused(7, in(58, "x := -x + -x + ^-x;"));
        refused(7, in(58, "x := -x + -x + x ^+ x;"));
    }

    private static void bracketsOpen() {
        Check.sentence("DEPTH: '(' and '[' in statements .. are open until what they begin ends");
        nestedOperand("(", "x", ")");
        nestedOperand("ABS(", "x", ")");
        nestedOperand("id(", "x", ")");
        nestedOperand("q[", "x", "]");
        fine(in(59, "t(); t(IN := b); t(IN := TRUE, PT := 1); q[0] := x; x := (x); x := q[0]; x := ABS(x); b := no();"));
        refused(7, in(59, "t(IN := ^(b));"));
        refused(7, in(59, "t(PT := q^[0]);"));
        refused(7, in(59, "q[q^[0]] := x;"));
        refused(7, in(59, "q[ABS^(0)] := x;"));
        refused(7, in(59, "x := MAX(1, ^(x));"));
        refused(7, in(60, "t^(IN := b);"));
        refused(7, in(60, "q^[0] := x;"));
        refused(7, in(60, "x := ^(x);"));
        refused(7, in(60, "x := q^[0];"));
        refused(7, in(60, "x := ABS^(x);"));
        // Of what a bracket begins the second operand is part as the first.
        refused(7, in(59, "t(IN := b, PT := ^(1));"));
        fine(in(59, "x := q[0]; t(IN := b); x := (x);"));
    }

    private static void bracketsThatEndAtOnce() {
        Check.sentence("the token that would be open as the 61st .. is FAULT 7 .., be it a ( that ends at once");
        fine(in(59, "t(); b := no();"));
        refused(7, in(60, "t^();"));
        refused(7, in(60, "b := no^();"));
        refused(7, in(60, "u^();"));
        refused(7, in(59, "b := (no^());"));
        fine(in(58, "b := (no());"));
        refused(7, in(59, "t(IN := no^());"));
        fine(in(58, "t(IN := no());"));
    }

    private static void signsBetweenOperandsOpen() {
        Check.sentence("DEPTH: signs and words between operands until the outermost expression ends in which they stand");
        for (int i = 0; i < SIGNS.length; i++) {
            boolean compares = i >= 4 && i <= 9;
            String operand = i <= 5 ? "b" : "x";
            String target = i <= 9 ? "b" : "x";
            String one = operand + " " + SIGNS[i] + " " + operand + ";";
            fine(in(59, target + " := " + one + target + " := " + one));
            refused(7, in(60, target + " := " + one.replace(SIGNS[i] + " ", "^" + SIGNS[i] + " ")));
            if (!compares || i <= 5) {
                String many = Check.repeat(" " + SIGNS[i] + " " + operand, 60);
                fine(target + " := " + operand + many + ";");
                refused(7, target + " := " + operand + many + " ^" + SIGNS[i] + " " + operand + ";");
            }
        }
        refused(7, "x := x" + Check.repeat(" + x * x", 30) + " ^MOD x;");
        refused(7, "b := b" + Check.repeat(" OR b AND b", 30) + " ^XOR b;");
        refused(7, "b := x" + Check.repeat(" * x", 30) + Check.repeat(" + x", 30) + " ^< x;");
        fine("b := x" + Check.repeat(" * x", 30) + Check.repeat(" + x", 29) + " < x;");
    }

    private static void signsStayOpenInTheOutermost() {
        Check.sentence("an index, or an operand of a call, is within the one around it");
        String sum = "x" + Check.repeat("+x", 58);
        // One bracket and 58 signs within it; behind the bracket two signs more have room.
        for (String operand : new String[] {"(" + sum + ")", "q[" + sum + "]", "ABS(" + sum + ")", "id(" + sum + ")"}) {
            fine("x := " + operand + "+x+x;");
            refused(7, "x := " + operand + "+x+x^+x;");
            refused(7, "x := x+" + operand + "+x^+x;");
            fine("x := x+" + operand + "+x;");
        }
        fine("x := -(" + sum + ")+x+x;");
        refused(7, "x := x+-(" + Check.repeat("x+", 57) + "x^+x);");
        String half = "x" + Check.repeat("+x", 29);
        fine("x := MAX(" + half + "," + half + ")+x+x;");
        refused(7, "x := MAX(" + half + "," + half + ")+x+x^+x;");
        refused(7, "x := MAX(" + half + "," + half + "+x^+x);");
        fine("x := (" + half + ")+(" + half + ")+x;");
        refused(7, "x := (" + half + ")+(" + half + ")+x^+x;");
        refused(7, "x := q[" + half + "]+q[" + half + "]+x^+x;");
    }

    private static void outermostExpressions() {
        Check.sentence("those of parameters, and the index before :=, are outermost ones");
        String most = "x" + Check.repeat("+x", 59);
        fine("t(PT := " + most + ");");
        refused(7, "t(PT := " + most + "^+x);");
        fine("t(PT := " + most + ", IN := x" + Check.repeat("+x", 58) + ">x);");
        refused(7, "t(PT := " + most + ", IN := x" + Check.repeat("+x", 58) + ">x^=b);");
        fine("q[" + most + "] := " + most + "+x;");
        refused(7, "q[" + most + "^+x] := x;");
        refused(7, "q[" + most + "] := " + most + "+x^+x;");
        // Those of IF, ELSIF and CASE stand within it; each begins anew.
        String truth = "x" + Check.repeat("+x", 58) + ">x";
        fine("IF " + truth + " THEN ELSIF " + truth + " THEN x := " + most + "; ELSE x := " + most + "; END_IF;");
        refused(7, "IF " + truth + "^=b THEN END_IF;");
        refused(7, "IF b THEN ELSIF " + truth + "^=b THEN END_IF;");
        refused(7, "IF " + truth + " THEN x := " + most + "^+x; END_IF;");
        fine("CASE " + most + " OF 1 : x := " + most + "; ELSE x := " + most + "; END_CASE;");
        refused(7, "CASE " + most + "^+x OF END_CASE;");
        fine("x := " + most + "+x; x := " + most + "+x;");
    }

    private static void allKindsTogether() {
        Check.sentence("the token that would be open as the 61st: all kinds are counted together");
        StringBuilder open = new StringBuilder();
        StringBuilder close = new StringBuilder();
        for (int i = 0; i < 10; i++) {
            open.append("IF b THEN CASE x OF 1 : FOR ").append(Check.names(i, 1)).append(" := 1 TO 2 DO ");
            close.append("END_FOR; END_CASE; END_IF;");
        }
        // Thirty are open here; each part of the operand opens five.
        String part = "-q[ABS((x +";
        String end = "))]";
        String six = Check.repeat(part, 6);
        fine(open + "x := " + six + "x" + Check.repeat(end, 6) + ";" + close);
        refused(7, open + "x := " + six + "^-x" + Check.repeat(end, 6) + ";" + close);
        refused(7, open + "x := " + six + "x ^* x" + Check.repeat(end, 6) + ";" + close);
        refused(7, open + "x := " + six + "id^(x)" + Check.repeat(end, 6) + ";" + close);
        // Behind them only the six signs between operands are open, with the thirty.
        fine(open + "x := " + six + "x" + Check.repeat(end, 6) + Check.repeat("+x", 24) + ";" + close);
        refused(7, open + "x := " + six + "x" + Check.repeat(end, 6) + Check.repeat("+x", 24) + "^+x;" + close);
    }

    private static void whatEndedIsOpenNoMore() {
        Check.sentence("are open until what they begin ends");
        for (String statement : new String[] {"IF b THEN END_IF;", "CASE x OF END_CASE;", "FOR x := 1 TO 2 DO END_FOR;",
            "t();", "q[0] := 1;", "x := -1;", "b := NOT b;", "x := (1);", "x := q[0];", "b := no();", "x := 1 + 1;"}) {
            fine(Check.repeat(statement, 61) + in(59, Check.repeat(statement, 3)));
            fine(in(59, statement) + in(60, ";") + statement);
        }
        fine("x := MAX(" + Check.repeat("(", 59) + "1" + Check.repeat(")", 59) + ", " + Check.repeat("-", 59) + "1);");
        fine("x := " + Check.repeat("-(1)+", 59) + "1;");
        fine("x := " + Check.repeat("-(1)+", 58) + "-(1);");
        refused(7, "x := " + Check.repeat("-(1)+", 59) + "-^(1);");
        fine("x := " + Check.repeat("q[0]+", 59) + "q[0];");
        refused(7, "x := " + Check.repeat("q[0]+", 60) + "q^[0];");
    }

    private static void onlyIfItCanCome() {
        Check.sentence("the token that would be open as the 61st, if it can come");
        for (int depth = 59; depth <= 60; depth++) {
            refused(6, in(depth, "x ^- 1;"));
            refused(6, in(depth, "x := 1 ^(1);"));
            refused(6, in(depth, "x := 1 ^[1];"));
            refused(6, in(depth, "x := 1 ^NOT 1;"));
            refused(6, in(depth, "x := ^+ 1;"));
            refused(6, in(depth, "x := ^IF;"));
            refused(6, in(depth, "^(x) := 1;"));
            refused(6, in(depth, "^[x] := 1;"));
            refused(6, in(depth, "^NOT x;"));
            refused(6, in(depth, "RETURN ^FOR x := 1 TO 2 DO END_FOR;"));
        }
        refused(4, in(60, "x := ^1x;"));
        refused(2, in(60, "x := ^(* 1);"));
        fine(in(60, "x := (* 1 *) 1;"));
        // What comes behind the 61st is not looked at.
        refused(7, in(60, "x := ^(# 1x"));
    }

    private static void neverOpen() {
        Check.sentence("(The '-' of a constant and the '[' of an ARRAY are never open.)");
        fine(in(59, "FOR x := -1 TO -2 BY -1 DO b := b; END_FOR;"));
        fine(in(59, "CASE x OF -1 : ; -3 .. -2, -7 : ; END_CASE;"));
        fine("CASE x OF " + Check.repeat("-1, ", 70) + "-1 : END_CASE;");
        refused(7, in(60, "x := ^-1;"));
        StringBuilder many = new StringBuilder();
        for (int i = 0; i < 70; i++) {
            many.append(Check.names(i, 1)).append(" : ARRAY [-1 .. -1] OF INT := -1;");
        }
        Check.right("PROGRAM p VAR " + many + " x : INT; END_VAR x := " + Check.repeat("-", 60) + "x; END_PROGRAM");
    }

    private static void cellsAreNotOpen() {
        Check.sentence("'(' .. in statements (but '(' of a cell)");
        String rungs = Check.repeat("RUNG - (b); - (/b); - (+b); - (-b); END_RUNG ", 20);
        Check.right("PROGRAM p VAR b : BOOL; END_VAR LADDER " + rungs + "END_LADDER END_PROGRAM");
        Check.right("FUNCTION_BLOCK g VAR b : BOOL; END_VAR LADDER " + rungs + "END_LADDER END_FUNCTION_BLOCK PROGRAM p"
            + " VAR b : BOOL; END_VAR " + in(60, ";") + "END_PROGRAM");
    }
}

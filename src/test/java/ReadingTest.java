/** Promise 5: judge, the faults of reading, 1 to 7. */
public final class ReadingTest {
    private static final String HEAD = "PROGRAM p VAR x : DINT; b : BOOL; q : ARRAY [0 .. 3] OF DINT; t : TON; END_VAR ";
    private static final String TAIL = " END_PROGRAM";

    public static void main(String[] args) {
        blanksAndSigns();
        names();
        numbers();
        meanings();
        places();
        blocksCannotCome();
        statementsCannotCome();
        rungsCannotCome();
        firstFaultIsTold();
        depth();
        depthOfExpressions();
        Check.finish("ReadingTest");
    }

    private static void body(int fault, String marked) {
        Check.refused(fault, HEAD + marked + TAIL);
    }

    private static void fine(String statements) {
        Check.right(HEAD + statements + TAIL);
    }

    private static void constant(int fault, String number) {
        if (fault == 0) {
            Check.right("PROGRAM p VAR y : DINT := " + number + "; END_VAR END_PROGRAM");
        } else {
            Check.refused(fault, "PROGRAM p VAR y : DINT := ^" + number + "; END_VAR END_PROGRAM");
        }
    }

    private static void blanksAndSigns() {
        Check.right("PROGRAM\tp\r\nEND_PROGRAM(* x *)");
        Check.right("(**)PROGRAM(***)p(* (* *)END_PROGRAM");
        Check.right("PROGRAM(* *) p (*)*) END_PROGRAM");
        Check.refused(2, "PROGRAM p END_PROGRAM ^(*)");
        Check.refused(2, "PROGRAM p END_PROGRAM ^(* *");
        Check.refused(2, "^(*");
        Check.refused(6, "PROGRAM p (* (* *) ^*) END_PROGRAM");
        for (int b = 0; b < 256; b++) {
            boolean known = b == 9 || b == 10 || b == 13 || b == 32 || b == '^'
                || "()[],;:.+-*/=<>&|%_".indexOf(b) >= 0 || b < 128 && Character.isLetterOrDigit(b);
            if (!known) {
                body(1, "^" + (char) b);
            }
        }
        Check.refusedAt(1, 0, "^");
        body(1, "x ^# 1;");
        fine("x := (x OR 1); x := q[x OR 1]; x := MAX(x OR 1, 1 OR x); q[1 OR 2] := x OR 1; t(IN := b OR b);");
        fine("x:=1;b:=x<=1;b:=x>=1;b:=x<>1;b:=x<1;b:=x>1;b:=x=1;b:=b&b;");
        body(6, "x ^: = 1;");
        body(6, "b := x < ^> 1;");
        body(6, "b := x = ^< 1;");
        body(6, "CASE x OF 1 ^. . 2 : END_CASE;");
    }

    private static void names() {
        String longest = Check.repeat("Ab_1", 8);
        Check.right("PROGRAM " + longest + " END_PROGRAM");
        Check.refused(3, "PROGRAM ^" + longest + "x END_PROGRAM");
        Check.refused(3, "PROGRAM ^" + Check.repeat("_", 33));
        Check.right("program _ Var ABC : int; end_var abc := aBc; End_Program");
        Check.refused(12, "PROGRAM p VAR abc : INT; ^ABC : INT; END_VAR END_PROGRAM");
        Check.refused(6, "PROGRAM ^(p END_PROGRAM");
        for (String word : ("FUNCTION END_FUNCTION FUNCTION_BLOCK END_FUNCTION_BLOCK PROGRAM END_PROGRAM VAR VAR_INPUT"
                + " VAR_OUTPUT END_VAR AT BOOL INT DINT ARRAY OF IF THEN ELSIF ELSE END_IF CASE END_CASE FOR TO BY DO"
                + " END_FOR EXIT RETURN OR XOR AND MOD NOT TRUE FALSE LADDER END_LADDER RUNG END_RUNG").split(" ")) {
            Check.refused(6, "PROGRAM ^" + word + " END_PROGRAM");
            Check.refused(6, "PROGRAM ^" + word.toLowerCase() + " END_PROGRAM");
            Check.right("PROGRAM " + word + "_ END_PROGRAM");
        }
        Check.right("PROGRAM t VAR ms, s, T1 : INT; END_VAR END_PROGRAM");
        String great = "ABCDEFGHIJKLMNOPQRSTUVWXYZ";
        for (int i = 0; i < 26; i++) {
            String letter = great.substring(i, i + 1);
            Check.right("PROGRAM p9 VAR " + letter + "0 : INT; END_VAR " + letter.toLowerCase() + "0 := 1; END_PROGRAM");
            Check.right("PROGRAM p9 VAR _" + letter.toLowerCase() + ": INT; END_VAR _" + letter + " := 1; END_PROGRAM");
        }
    }

    private static void numbers() {
        String[] right = {"0", "2147483647", "00000000000000000000001", "16#7fffFFFF", "16#0", "2#01", "016#A", "0002#1",
            "2#01111111111111111111111111111111", "T#5ms", "t#5Ms", "T#2147483647ms", "T#2147483s", "T#35791m", "T#596h",
            "T#0h", "t#1S", "T#1M", "T#1H", "-2147483647", "- 1", "16#00000000000000000000F"};
        for (String number : right) {
            constant(0, number);
        }
        String[] wrong = {"2147483648", "99999999999999999999999", "16#80000000", "2#10000000000000000000000000000000",
            "10#1", "3#1", "0#1", "18446744073709551618#1", "4294967312#1", "16#", "16#G", "16#1G", "16#_1", "2#", "2#2",
            "2#12", "2#1_", "1_", "1a", "12T#1s", "T#", "T#ms", "T#5", "T#5x", "T#5 ms", "T#5msx", "T#5ss", "T#5m5",
            "T#5h_", "T#2147483648ms", "T#2147484s", "T#35792m", "T#597h", "T#99999999999999999999h", "T#1s1", "T#_1s",
            "T#16#Fs", "16##1"};
        for (String number : wrong) {
            constant(4, number);
        }
        Check.refused(1, "PROGRAM p VAR y : DINT := 16 ^#1; END_VAR END_PROGRAM");
        Check.refused(1, "PROGRAM p VAR xT^#1s : INT;");
        Check.refused(6, "PROGRAM p VAR y : DINT := 1^.5; END_VAR END_PROGRAM");
        Check.refused(6, "PROGRAM p VAR y : DINT := -^-1; END_VAR END_PROGRAM");
        Check.refused(6, "PROGRAM p VAR y : DINT := -^TRUE; END_VAR END_PROGRAM");
        Check.refused(6, "PROGRAM p VAR y : DINT := ^+1; END_VAR END_PROGRAM");
        fine("CASE x OF 1..2:END_CASE;");
        body(4, "x := 1 + ^1x;");
    }

    /** A number means what another one does if each may be the first of a range that ends with the other. */
    private static void meanings() {
        String[] pairs = {"00017 17", "16#fF 255", "16#7FFFFFFF 2147483647", "016#10 16", "2#1011 11", "02#0001 1",
            "T#7ms 7", "T#7S 7000", "t#7m 420000", "T#7H 25200000", "T#596h 2145600000", "T#0h 0", "T#01ms 1",
            "16#09 9", "16#AbCdEf 11259375", "-16#10 -16", "-T#1s -1000"};
        for (String pair : pairs) {
            String one = pair.substring(0, pair.indexOf(' '));
            String other = pair.substring(pair.indexOf(' ') + 1);
            fine("CASE x OF " + one + " .. " + other + ", " + other + " .. " + one + " : END_CASE;");
        }
    }

    private static void places() {
        for (String place : "%IX0 %ix255 %Qx00255 %mX7".split(" ")) {
            Check.right("PROGRAM p VAR y AT " + place + ": BOOL; END_VAR END_PROGRAM");
        }
        for (String place : "%IW0 %qw63 %Mw0063".split(" ")) {
            Check.right("PROGRAM p VAR y AT" + place + ": INT; END_VAR END_PROGRAM");
        }
        for (String place : ("% %I %IX %X1 %IB1 %IX256 %QX256 %MX99999999999999999999 %IW64 %QW64 %MW255 %IX1_ %IX1a"
                + " %%IX1 %TX1 %I1").split(" ")) {
            Check.refused(5, "PROGRAM p VAR y AT ^" + place + " : BOOL; END_VAR END_PROGRAM");
        }
        Check.refused(5, "PROGRAM p VAR y AT ^% IX1 : BOOL; END_VAR END_PROGRAM");
        Check.refused(5, "PROGRAM p VAR y AT ^%IX 1 : BOOL; END_VAR END_PROGRAM");
        Check.refused(6, "PROGRAM p VAR y AT %IX1^.1 : BOOL; END_VAR END_PROGRAM");
        body(6, "x := ^%IX1;");
    }

    private static void blocksCannotCome() {
        Check.refusedAt(6, 7, "PROGRAM");
        Check.refusedAt(6, 21, "PROGRAM p END_PROGRA ");
        Check.refusedAt(6, 14, "PROGRAM p    \n");
        Check.refused(6, "^x");
        Check.refused(6, "^VAR END_VAR");
        Check.refused(6, "PROGRAM p END_PROGRAM^;");
        Check.refused(6, "PROGRAM p ^END_FUNCTION");
        Check.refused(6, "PROGRAM p ^: INT END_PROGRAM");
        Check.refused(6, "FUNCTION f ^END_FUNCTION");
        Check.refused(6, "FUNCTION f : ^g END_FUNCTION");
        Check.refused(6, "FUNCTION f : ^ARRAY [1 .. 2] OF INT END_FUNCTION");
        Check.refused(6, "FUNCTION_BLOCK f ^: INT");
        Check.refused(6, "PROGRAM p ; ^VAR END_VAR END_PROGRAM");
        Check.refused(6, "PROGRAM p LADDER END_LADDER ^VAR");
        Check.refused(6, "PROGRAM p LADDER END_LADDER ^;");
        Check.refused(6, "PROGRAM p ; ^LADDER");
        Check.refused(6, "PROGRAM p VAR ^VAR");
        Check.refused(6, "PROGRAM p VAR END_VAR x ^: INT;");
        Check.refused(6, "PROGRAM p VAR x ^y : INT;");
        Check.refused(6, "PROGRAM p VAR x, ^: INT;");
        Check.refused(6, "PROGRAM p VAR x AT ^y : INT;");
        Check.refused(6, "PROGRAM p VAR x AT %IX1 ^, y : INT;");
        Check.refused(6, "PROGRAM p VAR x : ^5");
        Check.refused(6, "PROGRAM p VAR x : INT ^END_VAR");
        Check.refused(6, "PROGRAM p VAR x : INT := ^y");
        Check.refused(6, "PROGRAM p VAR x : INT := 1 ^+ 1;");
        Check.refused(6, "PROGRAM p VAR x : ARRAY ^1");
        Check.refused(6, "PROGRAM p VAR x : ARRAY [^a");
        Check.refused(6, "PROGRAM p VAR x : ARRAY [1 ^]");
        Check.refused(6, "PROGRAM p VAR x : ARRAY [1 .. 2 ^..");
        Check.refused(6, "PROGRAM p VAR x : ARRAY [1 .. 2] ^INT");
        Check.refused(6, "PROGRAM p VAR x : ARRAY [1 .. 2] OF ^TON");
        Check.refused(6, "PROGRAM p VAR x : ARRAY [1 .. 2] OF ^ARRAY");
    }

    private static void statementsCannotCome() {
        fine(";;x:=1;q[1]:=2;t();t(IN:=b);t(IN:=b,PT:=x);RETURN;IF b THEN END_IF;CASE x OF END_CASE;");
        fine("IF b THEN ELSIF b THEN ; ELSIF b THEN ELSE END_IF; CASE x OF 1,2..3:;-4:;END_CASE;");
        fine("FOR x := 1 TO 2 DO END_FOR; FOR x := -1 TO -2 BY -1 DO EXIT; END_FOR;");
        body(6, "x ^;");
        body(6, "x ^= 1;");
        body(6, "x^.y := 1;");
        body(6, "x := ^;");
        body(6, "x := 1 ^x;");
        body(6, "x := 1 ^:= 1;");
        body(6, "x := (1^;");
        body(6, "x := 1^);");
        body(6, "x := 1 + ^* 1;");
        body(6, "x := ^+ 1;");
        body(6, "x := ^MOD 1;");
        body(6, "x := 1 ^NOT 1;");
        body(6, "x := q[^];");
        body(6, "x := q[1^, 2];");
        body(6, "x := MAX(1^;");
        body(6, "x := MAX(^, 1);");
        body(6, "x := MAX(1, ^);");
        body(6, "x := t.^1;");
        body(6, "x := t.^INT;");
        body(6, "x := t.Q^.Q;");
        body(6, "x := q[1]^[2];");
        body(6, "q[1] ^;");
        body(6, "q[1]^[1] := 1;");
        body(6, "t(b^);");
        body(6, "t(IN := b^;");
        body(6, "t(IN := b, ^);");
        body(6, "t(^, IN := b);");
        body(6, "t(^1);");
        body(6, "t() ^:= 1;");
        body(6, "IF ^THEN END_IF;");
        body(6, "IF b ^x := 1;");
        body(6, "IF b THEN ELSE ^ELSIF b THEN END_IF;");
        body(6, "IF b THEN ELSE ^ELSE END_IF;");
        body(6, "IF b THEN END_IF ^x := 1;");
        body(6, "IF b THEN ^END_CASE;");
        body(6, "CASE x ^1 : END_CASE;");
        body(6, "CASE x OF ^x := 1; END_CASE;");
        body(6, "CASE x OF ^b : END_CASE;");
        body(6, "CASE x OF 1 ^; END_CASE;");
        body(6, "CASE x OF 1, ^: END_CASE;");
        body(6, "CASE x OF 1 .. 2 ^.. 3 : END_CASE;");
        body(6, "CASE x OF ^(1) : END_CASE;");
        body(6, "CASE x OF ELSE ^1 : END_CASE;");
        body(6, "CASE x OF 1 : ^END_IF;");
        body(6, "FOR ^1 := 1 TO 2 DO END_FOR;");
        body(6, "FOR q^[1] := 1 TO 2 DO END_FOR;");
        body(6, "FOR x := ^x TO 2 DO END_FOR;");
        body(6, "FOR x := 1 ^+ 1 TO 2 DO END_FOR;");
        body(6, "FOR x := 1 ^.. 2 DO END_FOR;");
        body(6, "FOR x := 1 TO 2 ^; END_FOR;");
        body(6, "FOR x := 1 TO 2 BY ^DO END_FOR;");
        body(6, "FOR x := 1 TO 2 DO ^END_IF;");
        body(6, "EXIT ^EXIT;");
        body(6, "RETURN ^x;");
        body(6, "^1 := x;");
        body(6, "^(x) := 1;");
        body(6, "^ELSE");
        body(6, "^RUNG");
        Check.refusedAt(6, HEAD.length() + 6, HEAD + "x := 1");
    }

    private static void rungsCannotCome() {
        String head = "PROGRAM p VAR b : BOOL; t : TON; END_VAR LADDER ";
        Check.right(head + "END_LADDER END_PROGRAM");
        Check.right(head + "RUNG b; END_RUNG RUNG /b>b<b/t.Q-*(b); END_RUNG END_LADDER END_PROGRAM");
        Check.right(head + "RUNG b|b(/b); - - (+b);b b(-b);END_RUNG END_LADDER END_PROGRAM");
        Check.refused(6, head + "^b; END_LADDER END_PROGRAM");
        Check.refused(6, head + "^END_RUNG");
        Check.refused(6, head + "RUNG ^END_RUNG");
        Check.refused(6, head + "RUNG ^;");
        Check.refused(6, head + "RUNG ^| b;");
        Check.refused(6, head + "RUNG b; ^;");
        Check.refused(6, head + "RUNG b ^END_RUNG");
        Check.refused(6, head + "RUNG b | ^;");
        Check.refused(6, head + "RUNG b | ^| b;");
        Check.refused(6, head + "RUNG b; ^END_LADDER");
        Check.refused(6, head + "RUNG b; END_RUNG^;");
        Check.refused(6, head + "RUNG / ^/ b;");
        Check.refused(6, head + "RUNG / ^- b;");
        Check.refused(6, head + "RUNG ^<> b;");
        Check.refused(6, head + "RUNG ^+ b;");
        Check.refused(6, head + "RUNG t.^;");
        Check.refused(6, head + "RUNG t.Q^.Q;");
        Check.refused(6, head + "RUNG b ^:= b;");
        Check.refused(6, head + "RUNG (^);");
        Check.refused(6, head + "RUNG (^<b);");
        Check.refused(6, head + "RUNG (/ ^/ b);");
        Check.refused(6, head + "RUNG (t^.Q);");
        Check.refused(6, head + "RUNG (b^;");
        Check.refused(6, head + "RUNG ^TRUE;");
        Check.refused(6, head + "RUNG ^1;");
        Check.refusedAt(6, head.length() + 6, head + "RUNG b");
    }

    private static void firstFaultIsTold() {
        Check.refused(6, "PROGRAM p ^) # 1x (*");
        Check.refused(1, "PROGRAM p VAR ^# ) 1x (*");
        Check.refused(4, "^1x )");
        Check.refused(6, "PROGRAM p VAR x : INT; x : INT; END_VAR END_PROGRAM ^x");
        Check.refused(3, "PROGRAM ton VAR ^" + Check.repeat("x", 40));
    }

    private static void nested(String open, String inner, String close, int most) {
        fine(Check.repeat(open, most) + inner + Check.repeat(close, most));
        body(7, Check.repeat(open, most) + "^" + open + inner + Check.repeat(close, most + 1));
    }

    private static void depth() {
        nested("IF b THEN ", ";", "END_IF;", 60);
        nested("CASE x OF 1 : ", "x := 1;", "END_CASE;", 60);
        nested("IF b THEN ELSE ", "x := x;", "END_IF;", 60);
        fine(Check.repeat("IF b THEN ELSIF NOT b THEN x := x + 1; ", 59) + Check.repeat("END_IF;", 59));
        // What has ended is open no more.
        fine(Check.repeat("IF b THEN END_IF;", 70) + Check.repeat("CASE x OF END_CASE;", 70)
            + Check.repeat("FOR x := 1 TO 2 DO END_FOR;", 70) + Check.repeat("t();", 70) + Check.repeat("q[1] := 1;", 70));
        String ifs = Check.repeat("IF b THEN ", 60);
        String ends = Check.repeat("END_IF;", 60);
        body(7, ifs + "^FOR x := 1 TO 2 DO END_FOR;" + ends);
        body(7, ifs + "t^();" + ends);
        body(7, ifs + "q^[1] := 1;" + ends);
        body(7, ifs + "x := ^-1;" + ends);
        body(7, ifs + "b := ^NOT b;" + ends);
        body(7, ifs + "x := ^(1);" + ends);
        body(7, ifs + "x := MAX^(1, 2);" + ends);
        body(7, ifs + "x := nofunction^();" + ends);
        body(7, ifs + "x := q^[1];" + ends);
        body(7, ifs + "x := 1 ^+ 1;" + ends);
        body(7, ifs + "b := b ^AND b;" + ends);
        body(6, ifs + "x ^+ 1;" + ends);
        body(6, ifs + "x := ^+ 1;" + ends);
        body(6, ifs + "^THEN " + ends);
        fine(ifs + ";" + ends + ifs + ends);
        String before = Check.repeat("IF b THEN ", 59);
        String behind = Check.repeat("END_IF;", 59);
        fine(before + "CASE x OF -1 .. -1 : ; END_CASE; FOR x := -3 TO 3 BY -1 DO ; END_FOR;" + behind);
        fine(before + "t(); t(IN := b, PT := 3); q[1] := 1; x := -1; x := -x; x := (1); x := q[1];" + behind);
        fine(before + "x := 1 + 1; x := 1 + 1; IF b THEN x := 1; ELSIF b THEN ; END_IF; b := NOT b;" + behind);
        body(7, before + "t(IN := ^NOT b);" + behind);
        body(7, before + "q[1 ^+ 1] := 1;" + behind);
        body(7, before + "x := 1 + 1 ^+ 1;" + behind);
        body(7, before + "IF ^NOT b THEN END_IF;" + behind);
        body(7, before + "x := -^-1;" + behind);
        body(7, before + "x := (1) + ^(1);" + behind);
    }

    private static void depthOfExpressions() {
        fine("x := " + Check.repeat("(", 60) + "1" + Check.repeat(")", 60) + ";");
        body(7, "x := " + Check.repeat("(", 60) + "^(1" + Check.repeat(")", 61) + ";");
        fine("x := " + Check.repeat("-", 60) + "1 ;");
        body(7, "x := " + Check.repeat("-", 60) + "^-1;");
        fine("x := " + Check.repeat("ABS(", 60) + "1" + Check.repeat(")", 60) + ";");
        fine("x := " + Check.repeat("q[", 60) + "1" + Check.repeat("]", 60) + ";");
        fine("x := 1" + Check.repeat("+1", 60) + "; x := 1" + Check.repeat("+1", 60) + ";");
        body(7, "x := 1" + Check.repeat("+1", 60) + "^+1;");
        body(7, "x := 1" + Check.repeat("+1", 30) + Check.repeat("*1", 30) + " ^MOD 1;");
        // What stands between operands stays open when the brackets around it have closed.
        body(7, "x := (1" + Check.repeat("+1", 59) + ")+1 ^+ 1;");
        fine("x := (1" + Check.repeat("+1", 59) + ")+1;");
        body(7, "x := q[1" + Check.repeat("+1", 59) + "]+1 ^+ 1;");
        body(7, "x := MAX(1" + Check.repeat("+1", 30) + ", 1" + Check.repeat("+1", 29) + ")+1 ^+ 1;");
        // Prefixes and brackets do not.
        fine("x := " + Check.repeat("-(1)+", 59) + "1;");
        fine("x := " + Check.repeat("-(1)+", 58) + "-(1);");
        body(7, "x := " + Check.repeat("-(1)+", 59) + "-^(1);");
        // Parameters and the index before := are outermost, but stand within what is open around them.
        fine("t(IN := 1" + Check.repeat("+1", 58) + " > 1, PT := 1" + Check.repeat("+1", 59) + ");");
        body(7, "t(PT := 1" + Check.repeat("+1", 59) + "^+1);");
        fine("q[1" + Check.repeat("+1", 59) + "] := 1" + Check.repeat("+1", 60) + ";");
        body(7, "q[1" + Check.repeat("+1", 59) + "^+1] := 1;");
        body(7, "IF 1" + Check.repeat("+1", 58) + " > 1 ^= b THEN END_IF;");
        fine("IF 1" + Check.repeat("+1", 58) + " > 1 THEN ELSIF 1" + Check.repeat("+1", 58) + " > 1 THEN END_IF;");
        Check.right("PROGRAM p VAR b : BOOL; END_VAR LADDER " + Check.repeat("RUNG - (-b); END_RUNG ", 70)
            + "END_LADDER END_PROGRAM");
    }
}

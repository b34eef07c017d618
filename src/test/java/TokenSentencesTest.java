/** TOKENS: each sentence with a boundary, on both sides of it. */
public final class TokenSentencesTest {
    private static final String LETTERS = "ABCDEFGHIJKLMNOPQRSTUVWXYZ";
    private static final String NAME_BYTES = LETTERS + LETTERS.toLowerCase() + "0123456789_";
    private static final String SIGN_BYTES = "()[],;:.+-*/=<>&|";
    private static final String WORDS = "FUNCTION END_FUNCTION FUNCTION_BLOCK END_FUNCTION_BLOCK PROGRAM END_PROGRAM VAR"
        + " VAR_INPUT VAR_OUTPUT END_VAR AT BOOL INT DINT ARRAY OF IF THEN ELSIF ELSE END_IF CASE END_CASE FOR TO BY DO"
        + " END_FOR EXIT RETURN OR XOR AND MOD NOT TRUE FALSE LADDER END_LADDER RUNG END_RUNG";
    private static final String HEAD = "PROGRAM p VAR x : DINT; b : BOOL; q : ARRAY [0 .. 3] OF DINT; END_VAR ";
    private static final String TAIL = " END_PROGRAM";

    public static void main(String[] args) {
        fullText();
        blanks();
        otherBytes();
        comments();
        commentsWithoutEnd();
        blanksPartTokens();
        longestTokens();
        namesOfAllLengths();
        namesOfAllLetters();
        words();
        decimalNumbers();
        numbersWithBase();
        digitsOfBase();
        missingDigits();
        times();
        missingPartsOfTimes();
        rightBehindNumbers();
        timesBeginWithTheirSign();
        placesOfAllKinds();
        placesUpToTheirBounds();
        rightBehindPlaces();
        Check.finish("TokenSentencesTest");
    }

    private static boolean isBlank(int b) {
        return b == 9 || b == 10 || b == 13 || b == 32;
    }

    private static void fine(String statements) {
        Check.right(HEAD + statements + TAIL);
    }

    private static void refused(int fault, String marked) {
        Check.refused(fault, HEAD + marked + TAIL);
    }

    private static void fullText() {
        Check.sentence("THE TEXT has up to 8,192 bytes.");
        Check.right(Check.repeat(" ", 8192 - 21) + "PROGRAM p END_PROGRAM");
        Check.right("PROGRAM p END_PROGRAM" + Check.repeat("\n", 8192 - 21));
        Check.right("PROGRAM p END_PROGRAM(*" + Check.repeat("x", 8192 - 25) + "*)");
        Check.refusedAt(1, 8191, "PROGRAM p END_PROGRAM" + Check.repeat(" ", 8192 - 22) + "#");
        Check.refusedAt(6, 8191, "PROGRAM p END_PROGRAM" + Check.repeat(" ", 8192 - 22) + ";");
        Check.refusedAt(2, 8190, "PROGRAM p END_PROGRAM" + Check.repeat(" ", 8192 - 23) + "(*");
        Check.refusedAt(4, 8191 - 9, Check.repeat(" ", 8191 - 9) + "2147483648");
        Check.refusedAt(5, 8191, Check.repeat(" ", 8191) + "%");
        Check.refusedAt(6, 8192, Check.repeat(" ", 8192 - 20) + "PROGRAM p END_PROGRA");
    }

    private static void blanks() {
        Check.sentence("BLANKS are 9, 10, 13, 32");
        for (int b = 0; b < 256; b++) {
            String text = "PROGRAM" + (char) b + "p" + (char) b + "END_PROGRAM";
            if (isBlank(b)) {
                Check.right(text);
            } else if (NAME_BYTES.indexOf(b) >= 0) {
                Check.refusedAt(6, 0, text);
            } else {
                Check.refusedAt(b == '%' ? 5 : SIGN_BYTES.indexOf(b) >= 0 ? 6 : 1, 7, text);
            }
        }
    }

    private static void otherBytes() {
        Check.sentence("All other bytes: FAULT 1 where they stand.");
        for (int b = 0; b < 256; b++) {
            String text = "PROGRAM p END_PROGRAM " + (char) b + " ";
            if (isBlank(b)) {
                Check.right(text);
            } else {
                boolean known = NAME_BYTES.indexOf(b) >= 0 || SIGN_BYTES.indexOf(b) >= 0;
                Check.refusedAt(b == '%' ? 5 : known ? 6 : 1, 22, text);
            }
        }
    }

    private static void comments() {
        Check.sentence("BLANKS are .. all from (* to the next *) behind these two bytes");
        String program = "PROGRAM p END_PROGRAM";
        for (String comment : new String[] {"(**)", "(***)", "(****)", "(*)*)", "(*(*)", "(*)(*)", "(* ( * ) *)",
            "(**)(**)", "(*\n*)", "(* x := 1; # 1x % *)", "(*) *)", "(*\u00ff\u0000*)", "(*(**)"}) {
            Check.right(comment + program);
            Check.right(program + comment);
            Check.right("PROGRAM" + comment + "p" + comment + "END_PROGRAM");
        }
        StringBuilder all = new StringBuilder();
        for (int b = 0; b < 256; b++) {
            all.append((char) b).append('x');
        }
        Check.right("PROGRAM p (*" + all + "*) END_PROGRAM");
        Check.refused(6, "PROGRAM p (* (* *) ^*) END_PROGRAM");
        Check.refused(6, "PROGRAM p (**)^) END_PROGRAM");
        Check.refused(6, "PROGRAM p ^( * *) END_PROGRAM");
        Check.refused(6, program + "(* *)^*)");
    }

    private static void commentsWithoutEnd() {
        Check.sentence("without that FAULT 2 where it begins");
        for (String comment : new String[] {"(*", "(*)", "(**", "(* *", "(* )", "(*)(*", "(* * )", "(*(*", "(*) *",
            "(*PROGRAM q END_PROGRAM"}) {
            Check.refused(2, "^" + comment);
            Check.refused(2, "PROGRAM p END_PROGRAM^" + comment);
            Check.refused(2, "PROGRAM ^" + comment);
            Check.refused(2, "(**) ^" + comment);
        }
        Check.refused(6, "^x (*");
        Check.refused(6, "PROGRAM p ^) (*");
        Check.right("PROGRAM p END_PROGRAM(*)(*)");
    }

    private static void blanksPartTokens() {
        Check.sentence("They part tokens, and are left out.");
        Check.right("PROGRAM(**)p(**)END_PROGRAM");
        Check.refused(6, "PROGRAM p END_ ^PROGRAM");
        Check.refused(6, "PROGRAM p END_(**)^PROGRAM");
        fine("x\n:=\t1\r+ 2(**);");
        refused(6, "x := 1 ^2;");
        refused(6, "x := 1(**)^2;");
        refused(6, "x ^:(**)= 1;");
        refused(6, "b := x <(**)^> 1;");
        refused(6, "x := x ^x;");
        Check.refused(4, "PROGRAM p VAR y : DINT := ^16#(**)F;");
        Check.refused(1, "PROGRAM p VAR y : DINT := 16(**)^#F;");
        Check.refused(5, "PROGRAM p VAR y AT ^%IX(**)1 : BOOL;");
        Check.refused(4, "PROGRAM p VAR y : DINT := ^T#5(**)ms;");
    }

    private static void longestTokens() {
        Check.sentence("a token begins, which takes as many bytes as it can");
        fine("x:=1;b:=x<=1;b:=x>=1;b:=x<>1;b:=x<-1;b:=x>-1;b:=x=-1;b:=b&b;CASE x OF 1..2:x:=1;END_CASE;");
        refused(6, "x ^: = 1;");
        refused(6, "x ^::= 1;");
        refused(6, "x :=^= 1;");
        refused(6, "b := x < ^= 1;");
        refused(6, "b := x > ^= 1;");
        refused(6, "b := x < ^> 1;");
        refused(6, "b := x =^> 1;");
        refused(6, "b := x =^< 1;");
        refused(6, "b := x <^<= 1;");
        refused(6, "b := x <=^> 1;");
        refused(6, "b := x >^<> 1;");
        refused(6, "b := b &^& b;");
        refused(6, "CASE x OF 1 ^. . 2 : END_CASE;");
        refused(6, "CASE x OF 1..^.2 : END_CASE;");
        refused(6, "CASE x OF 1^:= END_CASE;");
        refused(6, "x := (x *^);");
        refused(6, "IFb ^THEN END_IF;");
        refused(4, "IF b OR ^1THEN END_IF;");
        refused(6, "RETURN1^;");
        fine("FOR x:=1 TO 2 DO END_FOR;");
        refused(4, "FOR x:=^1TO 2 DO END_FOR;");
        refused(4, "CASE x OF ^16#FOR : END_CASE;");
    }

    private static void namesOfAllLengths() {
        Check.sentence("NAME: .. more than 32 bytes: FAULT 3 where it begins.");
        for (int length = 1; length <= 40; length++) {
            String name = "Ab_1Ab_2Ab_3Ab_4Ab_5Ab_6Ab_7Ab_8Ab_9Ab_0".substring(0, length);
            if (length <= 32) {
                Check.right("PROGRAM " + name + " END_PROGRAM");
                Check.right("PROGRAM p VAR " + name + ":INT;END_VAR " + name + ":=1;END_PROGRAM");
                Check.refused(17, "PROGRAM p VAR x:^" + name + ";END_VAR END_PROGRAM");
                refused(20, "x := ^" + name + ".Q;");
                refused(24, "x := ^" + name + "();");
            } else {
                Check.refused(3, "PROGRAM ^" + name + " END_PROGRAM");
                Check.refused(3, "PROGRAM p VAR ^" + name + ":INT;");
                Check.refused(3, "PROGRAM p VAR x:^" + name + ";");
                refused(3, "^" + name + ":=1;");
                refused(3, "x := ^" + name + "();");
                Check.refused(3, "PROGRAM p END_PROGRAM ^" + name);
            }
        }
        String most = Check.repeat("x", 31);
        Check.right("PROGRAM p VAR " + most + "a, " + most + "b, " + most + ":INT;END_VAR END_PROGRAM");
        Check.refused(12, "PROGRAM p VAR " + most + "a, ^" + most.toUpperCase() + "A:INT;END_VAR END_PROGRAM");
        Check.refused(3, "PROGRAM ^" + Check.repeat("_", 33));
        Check.refused(3, "PROGRAM ^END_FUNCTION_BLOCK_END_FUNCTION_B END_PROGRAM");
        Check.right("PROGRAM END_FUNCTION_BLOCK_END_FUNCTION_ END_PROGRAM");
    }

    private static void namesOfAllLetters() {
        Check.sentence("NAME: a letter or _, and letters, digits, _ .. Letters are alike in both sizes");
        for (int i = 0; i < NAME_BYTES.length(); i++) {
            char c = NAME_BYTES.charAt(i);
            boolean digit = c >= '0' && c <= '9';
            if (digit) {
                Check.refused(4, "PROGRAM ^" + c + "a END_PROGRAM");
                Check.refused(6, "PROGRAM ^" + c + " END_PROGRAM");
            } else {
                Check.right("PROGRAM " + c + " END_PROGRAM");
            }
            String small = "n" + Character.toLowerCase(c);
            String great = "N" + Character.toUpperCase(c);
            Check.right("PROGRAM p VAR " + small + " : INT; END_VAR " + great + " := " + small + "; END_PROGRAM");
            Check.refused(12, "PROGRAM p VAR " + small + ", ^" + great + " : INT; END_VAR END_PROGRAM");
            Check.right("PROGRAM p VAR n, " + small + ", " + small + "_ : INT; END_VAR END_PROGRAM");
        }
        // The neighbours of letters and digits, and letters of other tongues.
        for (char other : "@`{\u00c0\u00e9\u00df".toCharArray()) {
            Check.refused(1, "PROGRAM n^" + other + " END_PROGRAM");
        }
        for (char other : "[/:".toCharArray()) {
            Check.refused(6, "PROGRAM n^" + other + " END_PROGRAM");
        }
    }

    private static void words() {
        Check.sentence("These names are WORDS: FUNCTION .. END_RUNG.");
        for (String word : WORDS.split(" ")) {
            Check.refused(6, "PROGRAM ^" + word + " END_PROGRAM");
            Check.refused(6, "PROGRAM ^" + word.toLowerCase() + " END_PROGRAM");
            Check.refused(6, "PROGRAM ^" + word.charAt(0) + word.substring(1).toLowerCase() + " END_PROGRAM");
            Check.right("PROGRAM " + word + "_ END_PROGRAM");
            Check.right("PROGRAM _" + word + " END_PROGRAM");
            Check.right("PROGRAM " + word + "1 END_PROGRAM");
            String shorter = word.substring(0, word.length() - 1);
            Check.right("PROGRAM " + shorter + "_ END_PROGRAM");
            if (!(" " + WORDS + " ").contains(" " + shorter + " ")) {
                Check.right("PROGRAM " + shorter + " END_PROGRAM");
            }
        }
        // Names of the standard, of inputs and of units are no words.
        for (String name : "IN PT Q ET CU R PV CV CD LD CLK S1 Q1 S R1 T MS M H IX QW".split(" ")) {
            Check.right("PROGRAM " + name + " END_PROGRAM");
        }
    }

    private static void number(int fault, String number) {
        if (fault == 0) {
            Check.right("PROGRAM p VAR y : DINT := " + number + "; END_VAR END_PROGRAM");
            fine("x := " + number + ";");
        } else {
            Check.refused(fault, "PROGRAM p VAR y : DINT := ^" + number + "; END_VAR END_PROGRAM");
            refused(fault, "x := ^" + number + ";");
        }
    }

    /** Two that mean the same may stand as a range in either order, and neighbours in one only. */
    private static void means(String number, long value) {
        number(0, number);
        fine("CASE x OF " + number + " .. " + value + ", " + value + " .. " + number + " : END_CASE;");
        if (value > 0) {
            refused(35, "CASE x OF ^" + number + " .. " + (value - 1) + " : END_CASE;");
        }
        if (value < 2147483647) {
            refused(35, "CASE x OF ^" + (value + 1) + " .. " + number + " : END_CASE;");
        }
    }

    private static void decimalNumbers() {
        Check.sentence("NUMBER: digits .. FAULT 4 where it begins: .. it is above 2,147,483,647");
        means("0", 0);
        means("1", 1);
        means("0000000000000000000000000000002147483647", 2147483647);
        means("2147483646", 2147483646);
        number(4, "2147483648");
        number(4, "2147483650");
        number(4, "3000000000");
        number(4, "4294967295");
        number(4, "4294967296");
        number(4, "4294967297");
        number(4, "9223372036854775807");
        number(4, "9223372036854775808");
        number(4, "18446744073709551616");
        number(4, "18446744073709551617");
        number(4, "1" + Check.repeat("0", 100));
        Check.right("PROGRAM p VAR y : DINT := -2147483647; END_VAR END_PROGRAM");
        Check.refused(4, "PROGRAM p VAR y : DINT := -^2147483648; END_VAR END_PROGRAM");
    }

    private static void numbersWithBase() {
        Check.sentence("NUMBER: .. FAULT 4 ..: its digits before # mean neither 16 nor 2");
        for (int base = 0; base <= 300; base++) {
            number(base == 16 || base == 2 ? 0 : 4, base + "#1");
            number(base == 16 || base == 2 ? 0 : 4, "000" + base + "#1");
        }
        for (String base : new String[] {"4294967298", "4294967312", "18446744073709551618", "18446744073709551632",
            "2147483648", "16384", "65552"}) {
            number(4, base + "#1");
        }
        means("16#7FFFFFFF", 2147483647);
        means("0016#0000000000007fffffff", 2147483647);
        number(4, "16#80000000");
        number(4, "16#FFFFFFFF");
        number(4, "16#100000000");
        number(4, "16#10000000000000000");
        number(4, "16#1" + Check.repeat("0", 60));
        means("2#1111111111111111111111111111111", 2147483647);
        means("002#0001111111111111111111111111111111", 2147483647);
        number(4, "2#10000000000000000000000000000000");
        number(4, "2#1" + Check.repeat("0", 64));
    }

    private static void digitsOfBase() {
        Check.sentence("digits of that (0 - 9, A - F in both sizes; 0, 1)");
        for (int b = 33; b < 256; b++) {
            char c = (char) b;
            int digit = b < 128 ? Character.digit(c, 16) : -1;
            if (digit >= 0) {
                means("16#" + c, digit);
                means("16#1" + c, 16 + digit);
            } else if (b != '^') {
                number(4, "16#" + c);
            }
            if (digit == 0 || digit == 1) {
                means("2#" + c, digit);
                means("2#1" + c, 2 + digit);
            } else if (b != '^') {
                number(4, "2#" + c);
            }
        }
    }

    private static void missingDigits() {
        Check.sentence("FAULT 4 ..: behind # there is none of these digits");
        for (String number : new String[] {"16#", "2#", "16# 1", "2# 1", "16#_1", "16##1", "16#;", "2#;", "16#-1", "16#(**)1"}) {
            number(4, number);
        }
        Check.refused(4, "PROGRAM p VAR y : DINT := ^16#");
        Check.refused(4, "PROGRAM p VAR y : DINT := ^2#");
    }

    private static void times() {
        Check.sentence("T# and digits and MS, S, M or H, that many times 1, 1,000, 60,000, 3,600,000 .. above 2,147,483,647");
        means("T#1MS", 1);
        means("T#1S", 1000);
        means("T#1M", 60000);
        means("T#1H", 3600000);
        means("t#3ms", 3);
        means("t#3mS", 3);
        means("t#3Ms", 3);
        means("t#3s", 3000);
        means("t#3m", 180000);
        means("t#3h", 10800000);
        means("T#0ms", 0);
        means("T#0h", 0);
        means("T#2147483647ms", 2147483647);
        number(4, "T#2147483648ms");
        means("T#2147483s", 2147483000);
        number(4, "T#2147484s");
        means("T#35791m", 2147460000);
        number(4, "T#35792m");
        means("T#596h", 2145600000);
        number(4, "T#597h");
        means("T#00000000000000000000000596h", 2145600000);
        // Each of these would wrap around to a small number.
        number(4, "T#4294967297ms");
        number(4, "T#4294968s");
        number(4, "T#71583m");
        number(4, "T#1194h");
        number(4, "T#18446744073709551617ms");
        number(4, "T#5124095576031h");
        number(4, "T#1" + Check.repeat("0", 40) + "h");
    }

    private static void missingPartsOfTimes() {
        Check.sentence("FAULT 4 ..: behind T# no digits, or behind these none of these four");
        for (String number : new String[] {"T#", "T#ms", "T#s", "T#m", "T#h", "T# 1s", "T#_1s", "T#-1s", "T##1s", "T#;", "T#5",
            "T#5 ms", "T#5 s", "T#5;", "T#5#s", "T#16#Fs", "T#5-s", "t#5"}) {
            number(4, number);
        }
        for (int i = 0; i < NAME_BYTES.length(); i++) {
            char c = NAME_BYTES.charAt(i);
            number("sSmMhH".indexOf(c) >= 0 ? 0 : 4, "T#5" + c);
            number("sS".indexOf(c) >= 0 ? 0 : 4, "T#5m" + c);
        }
        Check.refused(4, "PROGRAM p VAR y : DINT := ^T#");
        Check.refused(4, "PROGRAM p VAR y : DINT := ^T#5");
    }

    private static void rightBehindNumbers() {
        Check.sentence("FAULT 4 ..: a letter, digit or _ comes right behind it");
        for (int i = 0; i < NAME_BYTES.length(); i++) {
            char c = NAME_BYTES.charAt(i);
            boolean digit = c >= '0' && c <= '9';
            number(digit ? 0 : 4, "5" + c);
            number(Character.digit(c, 16) >= 0 ? 0 : 4, "16#5" + c);
            number(c == '0' || c == '1' ? 0 : 4, "2#1" + c);
            number(4, "T#5ms" + c);
            number(4, "T#5s" + c);
            number(4, "T#5h" + c);
        }
        fine("x:=5;x:=16#5;x:=2#1;x:=T#5ms;x:=(5);x:=5+5-T#5h*5/5;b:=5<5=(5>5)&(5<=5);x:=q[5];x:=MAX(5,5);x:=5(**);");
        refused(6, "x := 5^.5;");
        refused(6, "x := 5^|5;");
        refused(1, "x := 5^$;");
        refused(5, "x := 5^%;");
        refused(1, "x := T#5s^#;");
        refused(1, "x := 16#16^#1;");
    }

    private static void timesBeginWithTheirSign() {
        Check.sentence("(T or t with # right behind it begins a number.)");
        number(0, "T#5s");
        number(0, "t#5s");
        refused(1, "x := T ^#5s;");
        refused(1, "x := xT^#5s;");
        refused(1, "x := _t^#5s;");
        refused(1, "x := TT^#5s;");
        refused(1, "x := S^#5s;");
        refused(4, "x := ^1T#5s;");
        Check.right("PROGRAM T VAR t1 : INT; END_VAR END_PROGRAM");
        Check.refused(6, "PROGRAM ^T#5s END_PROGRAM");
        Check.refused(4, "PROGRAM ^t#x END_PROGRAM");
    }

    private static String at(String place) {
        boolean word = place.length() > 2 && Character.toUpperCase(place.charAt(2)) == 'W';
        return "PROGRAM p VAR y AT ^" + place + (word ? " : INT;" : " : BOOL;") + " END_VAR END_PROGRAM";
    }

    private static void place(int fault, String place) {
        if (fault == 0) {
            Check.right(at(place).replace("^", ""));
        } else {
            Check.refused(fault, at(place));
        }
    }

    private static void placesOfAllKinds() {
        Check.sentence("PLACE: % and one of IX QX MX IW QW MW and digits: FAULT 5 where it begins: otherwise");
        for (int i = 0; i < 26; i++) {
            for (int j = 0; j < 26; j++) {
                String area = LETTERS.substring(i, i + 1) + LETTERS.charAt(j);
                boolean known = "IX QX MX IW QW MW".contains(area);
                place(known ? 0 : 5, "%" + area + "7");
                place(known ? 0 : 5, "%" + area.toLowerCase() + "7");
            }
        }
        for (String place : new String[] {"%", "%I", "%IX", "%IW", "%X1", "%W1", "%1", "%I1", "%iXx", "%%IX1", "% IX1",
            "%IX 1", "%IX-1", "%IX#1", "%_X1", "%I_1", "%IX_1", "%IX;"}) {
            place(5, place);
        }
        Check.refused(5, "PROGRAM p VAR y AT ^%");
        Check.refused(5, "PROGRAM p VAR y AT ^%I");
        Check.refused(5, "PROGRAM p VAR y AT ^%IX");
        Check.right("PROGRAM p VAR y AT%iX1:BOOL; z AT %Mw1:INT; END_VAR END_PROGRAM");
    }

    private static void placesUpToTheirBounds() {
        Check.sentence("FAULT 5 ..: it is above 255 (X), 63 (W)");
        for (String area : "IX QX MX IW QW MW".split(" ")) {
            int most = area.endsWith("X") ? 255 : 63;
            for (int n = 0; n <= 300; n++) {
                place(n <= most ? 0 : 5, "%" + area + n);
            }
            place(0, "%" + area + "00000000000000000000" + most);
            place(5, "%" + area + "00000000000000000000" + (most + 1));
            place(5, "%" + area + "4294967296");
            place(5, "%" + area + "4294967297");
            place(5, "%" + area + "18446744073709551616");
            place(5, "%" + area + "1" + Check.repeat("0", 50));
        }
    }

    private static void rightBehindPlaces() {
        Check.sentence("FAULT 5 ..: a letter, digit or _ comes right behind it");
        for (int i = 0; i < NAME_BYTES.length(); i++) {
            char c = NAME_BYTES.charAt(i);
            place(c >= '0' && c <= '9' ? 0 : 5, "%IX1" + c);
            place(c >= '0' && c <= '9' ? 0 : 5, "%MW1" + c);
        }
        place(0, "%IX1(**)");
        Check.refused(6, "PROGRAM p VAR y AT %IX1^.1 : BOOL;");
        Check.refused(1, "PROGRAM p VAR y AT %IX16^#1 : BOOL;");
        Check.refused(5, "PROGRAM p VAR y AT %IX1^% : BOOL;");
    }
}

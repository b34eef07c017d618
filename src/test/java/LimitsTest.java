import java.util.Random;

/** The largest texts, texts one behind the other on one object, and texts that nobody would write. */
public final class LimitsTest {
    private static final int NONE = TypeRules.NONE;
    private static final String[] PIECES = ("FUNCTION f : INT|END_FUNCTION|FUNCTION_BLOCK g|END_FUNCTION_BLOCK|PROGRAM p|"
        + "END_PROGRAM|VAR|VAR_INPUT|VAR_OUTPUT|END_VAR|AT %IX1|x : INT;|y : BOOL;|t : TON;|u : g;|a : ARRAY [0 .. 3] OF|"
        + "INT|DINT|BOOL|IF y THEN|ELSIF|ELSE|END_IF;|CASE x OF|1 :|END_CASE;|FOR x := 1 TO 3|BY -1|DO|END_FOR;|EXIT;|"
        + "RETURN;|x := x + 1;|y := NOT y;|a[x] := 2;|t(IN := y);|u();|x := f(1);|OR|XOR|AND|MOD|NOT|TRUE|FALSE|LADDER|"
        + "END_LADDER|RUNG|END_RUNG|x|y|t.Q|(/y)|;|,|:|:=|..|.|(|)|[|]|+|-|*|/|=|<|>|<=|>=|<>|&|%QX0|%|T#1s|16#FF|"
        + "2147483647|2147483648|#|(*|*)|ABS(|MAX(|'|\u00ff|_").split("\\|");

    public static void main(String[] args) {
        fullTexts();
        mostNames();
        oneBehindTheOther();
        soup();
        Check.finish("LimitsTest");
    }

    private static void fullTexts() {
        String head = "PROGRAM p VAR x:INT;END_VAR CASE x OF ";
        String tail = "END_CASE;END_PROGRAM";
        int choices = (8192 - head.length() - tail.length()) / 2;
        String text = head + Check.repeat("1:", choices) + tail;
        TypeRules rules = Check.right(text);
        Check.is("nodes of the densest text", rules.count(2), 9 + 4 * choices);
        Check.is("its last body", rules.kind(8 + 4 * choices), 11);
        Check.refusedAt(6, 8192, Check.repeat(" ", 8192 - 7) + "PROGRAM");
        String shorter = head + Check.repeat("1:", choices - 2) + tail;
        Check.refusedAt(6, 8191, shorter + Check.repeat(" ", 8191 - shorter.length()) + "x");
        Check.refusedAt(2, 0, "(*" + Check.repeat("*", 8190));
        Check.refusedAt(10, 0, "(*" + Check.repeat("*", 8189) + ")");
        Check.refusedAt(3, 0, Check.repeat("a", 8192));
        Check.refusedAt(4, 0, Check.repeat("9", 8192));
        Check.refusedAt(4, 0, "T#" + Check.repeat("9", 8188) + "ms");
        Check.refusedAt(5, 0, "%IX" + Check.repeat("9", 8189));
        Check.refusedAt(6, 0, Check.repeat("(", 8192));
        String many = Check.names(0, 1600);
        rules = Check.right("PROGRAM p VAR " + many + ":INT;END_VAR END_PROGRAM");
        Check.is("cell of the last of many names", rules.cell(3 + 1600), 960 + 1599);
        Check.refused(25, "PROGRAM p VAR x:INT;END_VAR x:=^ABS(" + Check.repeat("1,", 3900) + "1)"
            + Check.repeat("+1", 59) + ";END_PROGRAM");
    }

    /** As many different names as a text has room for: the shortest ones that are free. */
    private static void mostNames() {
        String first = "ABCDEFGHIJKLMNOPQRSTUVWXYZ_";
        String next = first + "0123456789";
        String taken = " P IF TO BY OF OR AT DO TP SR RS VAR INT AND XOR MOD NOT FOR TON TOF CTU CTD ABS MIN MAX SEL SHL SHR ";
        StringBuilder names = new StringBuilder();
        int count = 0;
        int most = 8192 - "PROGRAM P VAR :INT;END_VAR END_PROGRAM".length();
        int inner = next.length() + 1;
        for (int length = 1; length <= 3; length++) {
            int times = length == 1 ? 1 : length == 2 ? inner - 1 : (inner - 1) * (inner - 1);
            for (int i = 0; i < first.length() * times && names.length() + length + 1 <= most; i++) {
                String name = first.substring(i % first.length(), i % first.length() + 1);
                int rest = i / first.length();
                for (int k = 1; k < length; k++) {
                    name += next.charAt(rest % next.length());
                    rest /= next.length();
                }
                if (!taken.contains(" " + name + " ")) {
                    names.append(count == 0 ? "" : ",").append(name);
                    count++;
                }
            }
        }
        TypeRules rules = Check.right("PROGRAM P VAR " + names + ":INT;END_VAR END_PROGRAM");
        Check.is("many names", count > 2250 ? 1 : 0, 1);
        Check.is("nodes of the most names", rules.count(2), count + 6);
        Check.is("cell of the last of the most names", rules.cell(3 + count), 960 + count - 1);
        Check.is("frame of the most names", rules.frame(0), 960 + count);
        Check.refused(6, "PROGRAM P VAR " + names + ":INT;END_VAR ^PROGRAM");
    }

    private static String answers(TypeRules rules) {
        StringBuilder all = new StringBuilder();
        all.append(rules.judge());
        for (int which = 0; which < 5; which++) {
            all.append(' ').append(rules.count(which));
        }
        int nodes = Math.min(rules.count(2), 40);
        for (int i = -1; i <= nodes; i++) {
            all.append(' ').append(rules.kind(i)).append(',').append(rules.type(i)).append(',').append(rules.cell(i))
                .append(',').append(rules.meaning(i));
        }
        for (int i = -1; i <= rules.count(3); i++) {
            all.append(' ').append(rules.frame(i)).append(',').append(rules.place(i));
        }
        return all.toString();
    }

    /** What an object answers does not depend on what it judged before. */
    private static void oneBehindTheOther() {
        String[] texts = {
            "FUNCTION q : INT VAR_INPUT in : INT; END_VAR q := in; END_FUNCTION PROGRAM p VAR x : INT; END_VAR x := q(1);"
                + " END_PROGRAM",
            "FUNCTION_BLOCK q VAR_OUTPUT in : INT; END_VAR END_FUNCTION_BLOCK PROGRAM p VAR x : q; y : INT; t : TON; END_VAR"
                + " t(IN := TRUE); y := x.in; END_PROGRAM",
            "PROGRAM p VAR in AT %IX0 : BOOL; t : TON; END_VAR t(IN := in); END_PROGRAM",
            "PROGRAM p VAR in AT %IX0 : BOOL; END_VAR in := TRUE; END_PROGRAM",
            "PROGRAM p VAR in : BOOL; END_VAR in := TRUE; END_PROGRAM",
            "PROGRAM p x := q(1); END_PROGRAM",
            "PROGRAM p VAR t : q; END_VAR END_PROGRAM",
            "PROGRAM q VAR x : BOOL; END_VAR LADDER RUNG >x (x); END_RUNG END_LADDER END_PROGRAM",
            "x", ""};
        for (String first : texts) {
            for (String second : texts) {
                TypeRules rules = new TypeRules();
                Check.write(rules, first);
                rules.judge();
                rules.clear();
                Check.write(rules, second);
                TypeRules fresh = new TypeRules();
                Check.write(fresh, second);
                boolean same = answers(rules).equals(answers(fresh));
                Check.is("'" + second + "' behind '" + first + "'", same ? 1 : 0, 1);
            }
        }
    }

    /** Texts of pieces put together by chance, with a fixed seed: they only must be answered in good order. */
    private static void soup() {
        Random random = new Random(7);
        TypeRules rules = new TypeRules();
        int used = 0;
        for (int i = 0; i < 4000; i++) {
            StringBuilder text = new StringBuilder(random.nextInt(3) == 0 ? "" : "PROGRAM p VAR x : INT; y : BOOL; END_VAR ");
            int pieces = random.nextInt(12);
            for (int j = 0; j < pieces; j++) {
                text.append(PIECES[random.nextInt(PIECES.length)]).append(random.nextInt(4) == 0 ? "" : " ");
            }
            text.append(random.nextInt(3) == 0 ? "" : " END_PROGRAM");
            if (used > 400) {
                rules = new TypeRules();
                used = 0;
            }
            rules.clear();
            Check.write(rules, text.toString());
            used += text.length() / 20 + 20;
            int fault = rules.judge();
            boolean told = fault == 0 || fault >= 1 && fault <= 7 || fault >= 10 && fault <= 44;
            boolean placed = fault == 0 ? rules.count(1) == NONE
                : rules.count(1) >= 0 && rules.count(1) <= text.length();
            boolean atHand = rules.count(2) > 0 == (fault == 0) && (rules.kind(0) == 0) == (fault == 0);
            Check.is("judge() of soup '" + text + "'", told && placed && atHand && rules.count(0) == fault ? 1 : 0, 1);
        }
    }
}

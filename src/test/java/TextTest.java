/** Promises 1 to 4: a new object, clear, feed, end. */
public final class TextTest {
    private static final String PROGRAM = "PROGRAM p END_PROGRAM ";

    public static void main(String[] args) {
        newObject();
        clearing();
        feeding();
        ending();
        Check.finish("TextTest");
    }

    private static void newObject() {
        TypeRules rules = new TypeRules();
        Check.is("NONE", TypeRules.NONE, -1);
        Check.is("new count(0)", rules.count(0), 0);
        Check.is("new count(1)", rules.count(1), -1);
        for (int which = 2; which <= 4; which++) {
            Check.is("new count(" + which + ")", rules.count(which), 0);
        }
        Check.is("new kind(0)", rules.kind(0), -1);
        Check.is("new type(0)", rules.type(0), -1);
        Check.is("new cell(0)", rules.cell(0), -1);
        Check.is("new meaning(0)", rules.meaning(0), -1);
        Check.is("new frame(0)", rules.frame(0), -1);
        Check.is("new place(0)", rules.place(0), -1);
        Check.is("new end(0)", rules.end(0), -1);
        Check.is("new clear()", rules.clear(), 0);
        Check.is("new judge()", rules.judge(), 10);
        Check.is("new count(1)", rules.count(1), 0);
        TypeRules other = Check.right(PROGRAM);
        Check.is("another object", new TypeRules().count(2), 0);
        Check.is("the first object", other.count(2), 3);
    }

    private static void clearing() {
        TypeRules rules = Check.right(PROGRAM);
        Check.is("clear()", rules.clear(), PROGRAM.length());
        Check.is("clear() again", rules.clear(), 0);
        Check.is("count(2) stays", rules.count(2), 3);
        Check.is("kind(1) stays", rules.kind(1), 3);
        Check.is("frame(0) stays", rules.frame(0), 960);
        Check.write(rules, "FUNCTION other thing at all");
        Check.is("count(4) stays while fed", rules.count(4), 960);
        Check.is("judge()", rules.judge(), 6);
        rules.clear();
        Check.is("count(0) stays", rules.count(0), 6);
        Check.is("count(1) stays", rules.count(1), 15);
        Check.is("judge() of nothing", rules.judge(), 10);
        Check.is("count(1) of nothing", rules.count(1), 0);
        Check.write(rules, PROGRAM);
        Check.is("judge() once more", rules.judge(), 0);
        Check.is("judge() twice", rules.judge(), 0);
    }

    private static void feeding() {
        TypeRules rules = new TypeRules();
        Check.is("feed", rules.feed(0x50524f47, 0x52414d20, 0x7020454e, 0x445f5052, 0x4f475241), 20);
        Check.is("feed", rules.feed(0x4d202020, 0x20202020, 0x20202020, 0x20202020, 0x20202020), 40);
        Check.is("judge() of bytes", rules.judge(), 0);
        Check.is("feed of high bytes", rules.feed(-1, -1, -1, -1, -1), 60);
        Check.is("judge() of high bytes", rules.judge(), 1);
        Check.is("place of high bytes", rules.count(1), 40);
        Check.is("feed of zeros", rules.feed(0x20202080, 0, 0, 0, 0), 80);
        rules.clear();
        rules.feed(0x20202020, 0x20a02020, 0, 0, 0);
        Check.is("judge() of one high byte", rules.judge(), 1);
        Check.is("place of one high byte", rules.count(1), 5);
        rules.clear();
        for (int i = 1; i <= 409; i++) {
            Check.is("feed " + i, blanks(rules), 20 * i);
        }
        Check.is("feed beyond", blanks(rules), -1);
        Check.is("feed beyond again", blanks(rules), -1);
        Check.is("end(12)", rules.end(12), 8172);
        Check.is("feed to the brim", blanks(rules), 8192);
        Check.is("feed when full", blanks(rules), -1);
        Check.is("judge() when full", rules.judge(), 10);
        Check.is("end(19) when full", rules.end(19), 8191);
        Check.is("feed with a byte left", blanks(rules), -1);
        Check.is("clear() when nearly full", rules.clear(), 8191);
    }

    private static int blanks(TypeRules rules) {
        return rules.feed(0x20202020, 0x20202020, 0x20202020, 0x20202020, 0x20202020);
    }

    private static void ending() {
        TypeRules rules = new TypeRules();
        for (int n = 0; n <= 20; n++) {
            rules.clear();
            blanks(rules);
            Check.is("end(" + n + ")", rules.end(n), n);
        }
        rules.clear();
        blanks(rules);
        Check.is("end(-1)", rules.end(-1), -1);
        Check.is("end(21)", rules.end(21), -1);
        Check.is("end(MIN)", rules.end(Integer.MIN_VALUE), -1);
        Check.is("end(MAX)", rules.end(Integer.MAX_VALUE), -1);
        Check.is("end(20)", rules.end(20), 20);
        Check.is("end(19)", rules.end(19), 19);
        Check.is("end(19) of too few", rules.end(19), -1);
        Check.is("feed", blanks(rules), 39);
        Check.is("end over two calls", rules.end(5), 24);
        Check.is("end over them again", rules.end(5), 9);
        Check.is("end of too few", rules.end(5), -1);
        Check.is("clear()", rules.clear(), 9);
        Check.write(rules, PROGRAM + "and what is not to stay");
        Check.is("end(19)", rules.end(19), PROGRAM.length() + 22);
        Check.is("end(0)", rules.end(0), PROGRAM.length() + 2);
        Check.is("end(17) keeps the first bytes", rules.end(17), PROGRAM.length() - 1);
        Check.is("judge() of them", rules.judge(), 0);
    }
}

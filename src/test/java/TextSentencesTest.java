/** "What it is" and promises 1 to 4: each sentence with a boundary, on both sides of it. */
public final class TextSentencesTest {
    private static final int NONE = TypeRules.NONE;
    private static final int BLANKS = 0x20202020;
    // Its nodes: 0 text, 1 program, 2 section, 3 declaration, 4 name, 5 type, 6 body, 7 FOR, 8 and 9 numbers, 10 body.
    private static final String RIGHT = "PROGRAM p VAR x:INT;END_VAR FOR x:=1 TO 2 DO END_FOR;END_PROGRAM";

    public static void main(String[] args) {
        everyMethodAsTheLastCall();
        judgingUntilTheLastCall();
        manyTextsUntilTheLastCall();
        newObject();
        clearOfNothingAndOfAll();
        clearLeavesNoBytes();
        clearLeavesWhatWasJudged();
        feedPutsTheHighestFirst();
        feedCountsTheBytes();
        feedRefusesMoreThanAll();
        refusedFeedChangesNothing();
        endKeepsTheFirst();
        endLeavesNothingBehind();
        endTakesBytesOfManyCalls();
        endRefusesAnotherNumber();
        endRefusesTooFew();
        Check.finish("TextSentencesTest");
    }

    private static int feedBlanks(TypeRules rules) {
        return rules.feed(BLANKS, BLANKS, BLANKS, BLANKS, BLANKS);
    }

    /** Twenty blanks, but a byte that can't be read at this place. */
    private static int feedStray(TypeRules rules, int at, int stray) {
        int[] words = {BLANKS, BLANKS, BLANKS, BLANKS, BLANKS};
        int shift = 24 - at % 4 * 8;
        words[at / 4] = words[at / 4] & ~(255 << shift) | stray << shift;
        return rules.feed(words[0], words[1], words[2], words[3], words[4]);
    }

    private static int lastCall(TypeRules rules, int method) {
        switch (method) {
            case 0: return rules.clear();
            case 1: return feedBlanks(rules);
            case 2: return rules.end(3);
            case 3: return rules.judge();
            case 4: return rules.count(4);
            case 5: return rules.kind(7);
            case 6: return rules.type(5);
            case 7: return rules.cell(7);
            case 8: return rules.meaning(7);
            case 9: return rules.frame(0);
            default: return rules.place(0);
        }
    }

    private static void everyMethodAsTheLastCall() {
        Check.sentence("An object is used for at most 512 calls after it has been made");
        int length = RIGHT.length();
        int[] due = {length, length + 20, length - 17, 0, 962, 19, 1, 960, 961, 962, 0};
        int before = (length + 19) / 20 + 2;
        for (int method = 0; method < due.length; method++) {
            TypeRules rules = new TypeRules();
            Check.write(rules, RIGHT);
            Check.is("call " + before, rules.judge(), 0);
            for (int call = before + 1; call <= 511; call++) {
                Check.is("call " + call, rules.count(2), 11);
            }
            Check.is("call 512 of method " + method, lastCall(rules, method), due[method]);
        }
    }

    private static void judgingUntilTheLastCall() {
        Check.sentence("at most 512 calls: the fullest text, judged by all that are left");
        StringBuilder text = new StringBuilder("PROGRAM p VAR ").append(Check.names(0, 1600)).append(":INT;END_VAR ");
        text.append(Check.names(0, 1)).append(":=").append(Check.names(1599, 1)).append(";");
        text.append(Check.repeat(" ", 8192 - 11 - text.length())).append("END_PROGRAM");
        TypeRules rules = new TypeRules();
        Check.write(rules, text.toString());
        for (int call = 413; call <= 512; call += 2) {
            Check.is("call " + call, rules.judge(), 0);
            Check.is("call " + (call + 1), rules.cell(1608), 960 + 1599);
        }
    }

    private static void manyTextsUntilTheLastCall() {
        Check.sentence("at most 512 calls: texts of other names, and refused ones, one behind the other");
        TypeRules rules = new TypeRules();
        // Six calls each: two feeds, an end, and three below.
        for (int i = 0; i < 85; i++) {
            String name = Check.names(i, 1);
            boolean right = i % 2 == 0;
            Check.write(rules, "PROGRAM " + name + (right ? "_ END_PROGRAM" : " VAR x:" + name + ";"));
            Check.is("judge() of text " + i, rules.judge(), right ? 0 : 6);
            Check.is("count(1) of text " + i, rules.count(1), right ? NONE : 24);
            Check.is("clear() of text " + i, rules.clear(), right ? 25 : 24);
        }
    }

    private static void newObject() {
        Check.sentence("Promise 1: No text, nothing judged.");
        TypeRules rules = new TypeRules();
        for (int which = -1; which <= 5; which++) {
            Check.is("count(" + which + ")", rules.count(which), which == 0 || which >= 2 && which <= 4 ? 0 : NONE);
        }
        for (int i = -1; i <= 1; i++) {
            Check.is("kind(" + i + ")", rules.kind(i), NONE);
            Check.is("type(" + i + ")", rules.type(i), NONE);
            Check.is("cell(" + i + ")", rules.cell(i), NONE);
            Check.is("meaning(" + i + ")", rules.meaning(i), NONE);
            Check.is("frame(" + i + ")", rules.frame(i), NONE);
            Check.is("place(" + i + ")", rules.place(i), NONE);
        }
        Check.is("end(0)", rules.end(0), NONE);
        Check.is("clear()", rules.clear(), 0);
        Check.is("feed of the first twenty", feedBlanks(new TypeRules()), 20);
        Check.is("judge() of no text", rules.judge(), 10);
        Check.is("its place", rules.count(1), 0);
    }

    private static TypeRules filled(int bytes) {
        TypeRules rules = new TypeRules();
        Check.write(rules, Check.repeat(" ", bytes));
        return rules;
    }

    private static void clearOfNothingAndOfAll() {
        Check.sentence("Promise 2: No text ..: how many bytes it had.");
        for (int bytes : new int[] {0, 1, 19, 20, 21, 4096, 8180, 8191, 8192}) {
            TypeRules rules = filled(bytes);
            Check.is("clear() of " + bytes, rules.clear(), bytes);
            Check.is("clear() of none", rules.clear(), 0);
            Check.is("end(20) of none", rules.end(20), NONE);
            Check.is("feed behind none", feedStray(rules, 0, '#'), 20);
            Check.is("judge() of it", rules.judge(), 1);
            Check.is("its place", rules.count(1), 0);
        }
    }

    private static void clearLeavesWhatWasJudged() {
        Check.sentence("Promise 2: what was judged stays");
        TypeRules rules = Check.right(RIGHT);
        String before = answers(rules);
        rules.clear();
        Check.is("answers behind clear()", answers(rules).equals(before) ? 1 : 0, 1);
        Check.write(rules, "PROGRAM q LADDER END_LADDER #");
        Check.is("answers behind feed() and end()", answers(rules).equals(before) ? 1 : 0, 1);
        Check.is("judge()", rules.judge(), 1);
        rules.clear();
        Check.is("the fault behind clear()", rules.count(0), 1);
        Check.is("its place behind clear()", rules.count(1), 28);
        Check.is("judge() of no text", rules.judge(), 10);
    }

    private static String answers(TypeRules rules) {
        StringBuilder all = new StringBuilder();
        for (int i = -1; i <= 12; i++) {
            all.append(rules.count(i)).append(' ').append(rules.kind(i)).append(' ').append(rules.type(i)).append(' ')
                .append(rules.cell(i)).append(' ').append(rules.meaning(i)).append(' ').append(rules.frame(i)).append(' ')
                .append(rules.place(i)).append('\n');
        }
        return all.toString();
    }

    private static void feedPutsTheHighestFirst() {
        Check.sentence("Promise 3: Twenty bytes come behind the text, the highest of each number first");
        for (int at = 0; at < 20; at++) {
            for (int stray : new int[] {'#', 0, 127, 128, 255}) {
                TypeRules rules = new TypeRules();
                feedBlanks(rules);
                feedStray(rules, at, stray);
                Check.is("judge() with " + stray + " as byte " + at, rules.judge(), 1);
                Check.is("place of " + stray + " as byte " + at, rules.count(1), 20 + at);
            }
        }
    }

    private static void feedCountsTheBytes() {
        Check.sentence("Promise 3: how many it has");
        TypeRules rules = new TypeRules();
        for (int i = 1; i <= 409; i++) {
            Check.is("feed " + i, feedBlanks(rules), 20 * i);
        }
        Check.is("feed behind an end", feedBlanks(filled(7)), 27);
    }

    private static void feedRefusesMoreThanAll() {
        Check.sentence("Promise 3: NONE ..: there would be more than 8,192.");
        for (int bytes = 8160; bytes <= 8192; bytes++) {
            TypeRules rules = filled(bytes);
            boolean fits = bytes + 20 <= 8192;
            Check.is("feed behind " + bytes, feedBlanks(rules), fits ? bytes + 20 : NONE);
            Check.is("clear() then", rules.clear(), fits ? bytes + 20 : bytes);
        }
    }

    private static void refusedFeedChangesNothing() {
        Check.sentence("Promise 3: NONE, changing nothing");
        String text = RIGHT + Check.repeat(" ", 8173 - RIGHT.length());
        TypeRules rules = Check.right(text);
        String before = answers(rules);
        for (int i = 0; i < 3; i++) {
            Check.is("feed of strays", rules.feed(0x23232323, -1, 0, 0x23232323, 0x28282828), NONE);
        }
        Check.is("answers behind it", answers(rules).equals(before) ? 1 : 0, 1);
        Check.is("judge() behind it", rules.judge(), 0);
        Check.is("end(19) behind it", rules.end(19), 8172);
        Check.is("feed that fits", feedBlanks(rules), 8192);
        Check.is("judge() of all", rules.judge(), 0);
        Check.is("feed of strays to all", rules.feed(0x23232323, 0, 0, 0, 0), NONE);
        Check.is("judge() of all again", rules.judge(), 0);
        Check.is("clear()", rules.clear(), 8192);
        TypeRules broken = new TypeRules();
        Check.write(broken, Check.repeat(" ", 8191) + "#");
        Check.is("feed behind the last byte", feedBlanks(broken), NONE);
        Check.is("judge() of the last byte", broken.judge(), 1);
        Check.is("its place", broken.count(1), 8191);
    }

    private static void endKeepsTheFirst() {
        Check.sentence("Promise 4: Of the last twenty bytes of the text .. the first n (0 .. 20) stay: how many bytes");
        for (int n = 0; n <= 20; n++) {
            for (int at = 0; at < 20; at++) {
                TypeRules rules = new TypeRules();
                feedBlanks(rules);
                feedStray(rules, at, '#');
                Check.is("end(" + n + ")", rules.end(n), 20 + n);
                Check.is("judge() of " + n + " with a stray " + at, rules.judge(), at < n ? 1 : 10);
                Check.is("its place", rules.count(1), at < n ? 20 + at : 0);
                Check.is("feed behind end(" + n + ")", feedStray(rules, 0, '#'), 40 + n);
                rules.judge();
                Check.is("place of what comes behind", rules.count(1), at < n ? 20 + at : 20 + n);
            }
        }
    }

    /** The text's end may cut every token; what stood behind it is not read. */
    private static void endLeavesNothingBehind() {
        Check.sentence("Promise 4: the first n (0 .. 20) stay: the others are no part of the text");
        for (String last : new String[] {"PROGRAM p END_PROGRAM", "PROGRAM p END_PROGRAM(**)(* *)", "PROGRAM p (*)*) *) END_",
            "PROGRAM p x:=1..2<=3>=4<>5", "PROGRAM p x:=16#7FFFFFFFFFF", "PROGRAM p x:=T#2147483ms", "PROGRAM p x:=2#1012;",
            "PROGRAM p VAR x AT %IX2555", "PROGRAM p VAR x AT %QW633:", "PROGRAM p x:=21474836470;",
            "PROGRAM p " + Check.repeat("n", 34), "PROGRAM p RETURN;;END_PROGRAM"}) {
            String text = Check.repeat(" ", 60 - last.length()) + last;
            for (int n = 0; n <= 20; n++) {
                TypeRules cut = new TypeRules();
                Check.write(cut, text);
                Check.is("end(" + n + ")", cut.end(n), 40 + n);
                TypeRules fresh = Check.judged(text.substring(0, 40 + n));
                Check.is("judge() of " + n + " of '" + last + "'", cut.judge(), fresh.count(0));
                Check.is("count(1) of " + n + " of '" + last + "'", cut.count(1), fresh.count(1));
            }
        }
    }

    private static void clearLeavesNoBytes() {
        Check.sentence("Promise 2: No text: bytes that were there are not read");
        for (String old : new String[] {"*)", "n", "5", "ms", "=", ".", ">", "#1", " END_PROGRAM"}) {
            for (String text : new String[] {"(*", "(* *", "PROGRAM", "PROGRAM p x:", "PROGRAM p x:=1", "PROGRAM p x:=T#1",
                "PROGRAM p x:=1.", "PROGRAM p x:=1<", "PROGRAM p x:=16", "PROGRAM p VAR x AT %IX", "PROGRAM p"}) {
                String whole = Check.repeat(" ", 40 - text.length()) + text;
                for (int shift = 0; shift < old.length(); shift++) {
                    // Forty bytes in two calls, so that right behind them stands what was there before.
                    TypeRules rules = new TypeRules();
                    Check.write(rules, Check.repeat(" ", 40) + old.substring(shift) + Check.repeat(old, 10));
                    rules.clear();
                    Check.write(rules, whole);
                    TypeRules fresh = Check.judged(whole);
                    Check.is("judge() of '" + text + "' where '" + old + "' was", rules.judge(), fresh.count(0));
                    Check.is("count(1) of '" + text + "' where '" + old + "' was", rules.count(1), fresh.count(1));
                }
            }
        }
    }

    private static void endTakesBytesOfManyCalls() {
        Check.sentence("Promise 4: the last twenty bytes .., by whichever calls they came");
        TypeRules rules = new TypeRules();
        for (int i = 1; i <= 20; i++) {
            feedStray(rules, 0, i == 1 ? '#' : ' ');
            Check.is("one byte of call " + i, i == 1 ? rules.end(1) : rules.end(1) - i + 1, 1);
        }
        Check.is("end(20) over twenty calls", rules.end(20), 20);
        Check.is("judge()", rules.judge(), 1);
        Check.is("end(1) over twenty calls", rules.end(1), 1);
        Check.is("judge() of the first", rules.judge(), 1);
        Check.is("feed behind it", feedBlanks(rules), 21);
        Check.is("end(0) over both", rules.end(0), 1);
        Check.is("judge() of the first again", rules.judge(), 1);
        TypeRules two = new TypeRules();
        feedBlanks(two);
        feedBlanks(two);
        Check.is("end(0)", two.end(0), 20);
        Check.is("end(0) of the call before", two.end(0), 0);
        Check.is("end(0) of no call", two.end(0), NONE);
        TypeRules full = filled(8192);
        Check.is("end(20) of all", full.end(20), 8192);
        Check.is("end(0) of all", full.end(0), 8172);
    }

    private static void endRefusesAnotherNumber() {
        Check.sentence("Promise 4: NONE: another n");
        TypeRules rules = Check.right(RIGHT);
        int length = RIGHT.length();
        for (int n : new int[] {-1, 21, -20, 40, 256, Integer.MIN_VALUE, Integer.MAX_VALUE}) {
            Check.is("end(" + n + ")", rules.end(n), NONE);
            Check.is("end(20) behind it", rules.end(20), length);
        }
        Check.is("judge() behind them", rules.judge(), 0);
        Check.is("clear() behind them", rules.clear(), length);
    }

    private static void endRefusesTooFew() {
        Check.sentence("Promise 4: NONE: .. fewer than twenty bytes are there.");
        for (int bytes = 0; bytes <= 22; bytes++) {
            for (int n : new int[] {0, 1, 19, 20}) {
                TypeRules rules = filled(bytes);
                Check.is("end(" + n + ") of " + bytes, rules.end(n), bytes < 20 ? NONE : bytes - 20 + n);
                Check.is("clear() then", rules.clear(), bytes < 20 ? bytes : bytes - 20 + n);
            }
        }
    }
}

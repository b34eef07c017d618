import java.nio.charset.StandardCharsets;

/** What the tests share: putting a text into a new object, and telling the answers that are not due. */
final class Check {
    static final int NONE = TypeRules.NONE;

    private static int asked = 0;
    private static int wrong = 0;
    private static String sentence = "";
    private static int askedBefore = 0;
    private static int sentences = 0;

    private Check() {
    }

    static void is(String what, long got, long due) {
        asked++;
        if (got != due) {
            wrong++;
            System.out.println(sentence + what + " answered " + got + ", due is " + due);
        }
    }

    /** What is asked from here on is asked for this sentence of the document. */
    static void sentence(String words) {
        endSentence();
        sentence = "[" + words + "] ";
        askedBefore = asked;
        sentences++;
    }

    /** A sentence that nothing was asked for has no test. */
    private static void endSentence() {
        if (sentences > 0 && asked == askedBefore) {
            wrong++;
            System.out.println(sentence + "has no test");
        }
    }

    static void finish(String name) {
        endSentence();
        String told = sentences > 0 ? sentences + " sentences, " : "";
        System.out.println(name + ": " + told + (asked - wrong) + " answers as due, " + wrong + " not");
        if (wrong != 0 || asked == 0) {
            System.exit(1);
        }
    }

    /** Twenty bytes of the text from there on, with zeros behind its end. */
    static int feed(TypeRules rules, byte[] bytes, int from) {
        int[] words = new int[5];
        for (int i = 0; i < 20; i++) {
            int b = from + i < bytes.length ? bytes[from + i] & 255 : 0;
            words[i / 4] |= b << (24 - 8 * (i % 4));
        }
        return rules.feed(words[0], words[1], words[2], words[3], words[4]);
    }

    /** Puts the text behind what is there; the last twenty bytes come alone if padding would be too long. */
    static void write(TypeRules rules, String text) {
        byte[] bytes = text.getBytes(StandardCharsets.ISO_8859_1);
        if (bytes.length > 8192) {
            throw new IllegalArgumentException("the test's own text is too long: " + bytes.length);
        }
        int whole = bytes.length / 20 * 20;
        for (int i = 0; i < whole; i += 20) {
            feed(rules, bytes, i);
        }
        int rest = bytes.length - whole;
        if (rest == 0) {
            return;
        }
        if (feed(rules, bytes, whole) != NONE) {
            rules.end(rest);
        } else {
            rules.end(rest);
            feed(rules, bytes, bytes.length - 20);
        }
    }

    static TypeRules judged(String text) {
        TypeRules rules = new TypeRules();
        write(rules, text);
        rules.judge();
        return rules;
    }

    /** The text is right. */
    static TypeRules right(String text) {
        TypeRules rules = new TypeRules();
        write(rules, text);
        is("judge() of " + brief(text), rules.judge(), 0);
        is("count(0) of " + brief(text), rules.count(0), 0);
        is("count(1) of " + brief(text), rules.count(1), NONE);
        return rules;
    }

    /** The text has this fault where the mark ^ stands, which is no part of it. */
    static void refused(int fault, String marked) {
        int place = marked.indexOf('^');
        refusedAt(fault, place, marked.substring(0, place) + marked.substring(place + 1));
    }

    static void refusedAt(int fault, int place, String text) {
        TypeRules rules = new TypeRules();
        write(rules, text);
        is("judge() of " + brief(text), rules.judge(), fault);
        is("count(0) of " + brief(text), rules.count(0), fault);
        is("count(1) of " + brief(text), rules.count(1), place);
        is("count(2) of " + brief(text), rules.count(2), 0);
        is("kind(0) of " + brief(text), rules.kind(0), NONE);
        is("frame(0) of " + brief(text), rules.frame(0), NONE);
    }

    static String brief(String text) {
        return text.length() <= 300 ? "'" + text + "'" : "'" + text.substring(0, 300) + "..' (" + text.length() + ")";
    }

    /** The nth node of this kind, from 0 on. */
    static int node(TypeRules rules, int kind, int nth) {
        int left = nth;
        for (int i = 0; i < rules.count(2); i++) {
            if (rules.kind(i) == kind && left-- == 0) {
                return i;
            }
        }
        return NONE;
    }

    static String repeat(String part, int times) {
        return part.repeat(times);
    }

    /** Different names of four bytes, with commas between. */
    static String names(int from, int count) {
        StringBuilder list = new StringBuilder();
        for (int i = from; i < from + count; i++) {
            list.append(i == from ? "" : ",").append('v').append((char) ('a' + i / 676 % 26))
                .append((char) ('a' + i / 26 % 26)).append((char) ('a' + i % 26));
        }
        return list.toString();
    }
}

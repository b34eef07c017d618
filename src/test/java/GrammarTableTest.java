import java.util.ArrayList;
import java.util.LinkedHashMap;
import java.util.LinkedHashSet;
import java.util.List;
import java.util.Map;
import java.util.Set;

/**
 * Every token behind every beginning of some right texts: it is FAULT 6 exactly if, by the document's grammar, no text
 * begins so. The grammar stands here as the document tells it, and is followed without the class.
 */
public final class GrammarTableTest {
    private static final String[] RULES = {
        "text =  | block text",
        "block = FUNCTION name : simple sections body END_FUNCTION | FUNCTION_BLOCK name sections body END_FUNCTION_BLOCK"
            + " | PROGRAM name sections body END_PROGRAM",
        "sections =  | section sections",
        "section = VAR declarations END_VAR | VAR_INPUT declarations END_VAR | VAR_OUTPUT declarations END_VAR",
        "declarations =  | declaration declarations",
        "declaration = name names at : type given ;",
        "names =  | , name names",
        "at =  | AT place",
        "given =  | := constant",
        "simple = BOOL | INT | DINT",
        "type = simple | ARRAY [ constant .. constant ] OF simple | name",
        "constant = number | - number | TRUE | FALSE",
        "body = statements | LADDER rungs END_LADDER",
        "statements =  | statement statements",
        "statement = ; | name := expression ; | name [ expression ] := expression ; | name ( parameters ) ;"
            + " | IF expression THEN statements elsifs else END_IF ; | CASE expression OF choices else END_CASE ;"
            + " | FOR name := constant TO constant by DO statements END_FOR ; | EXIT ; | RETURN ;",
        "parameters =  | parameter moreparameters",
        "moreparameters =  | , parameter moreparameters",
        "parameter = name := expression",
        "elsifs =  | ELSIF expression THEN statements elsifs",
        "else =  | ELSE statements",
        "choices =  | choice choices",
        "choice = range ranges : statements",
        "ranges =  | , range ranges",
        "range = constant upto",
        "upto =  | .. constant",
        "by =  | BY constant",
        "expression = operand moreoperands",
        "moreoperands =  | sign operand moreoperands",
        "sign = OR | XOR | AND | & | = | <> | < | > | <= | >= | + | - | * | / | MOD",
        "operand = - operand | NOT operand | number | TRUE | FALSE | ( expression ) | name | name [ expression ] | name . name"
            + " | name ( operands )",
        "operands =  | expression moreexpressions",
        "moreexpressions =  | , expression moreexpressions",
        "rungs =  | rung rungs",
        "rung = RUNG row rows END_RUNG",
        "rows =  | row rows",
        "row = cell cells ;",
        "cells =  | cell cells | bar cell cells",
        "cell = contact name output | - | * | ( coil name )",
        "contact =  | / | > | <",
        "output =  | . name",
        "coil =  | / | + | -"};
    private static final String[] TOKENS = ("FUNCTION END_FUNCTION FUNCTION_BLOCK END_FUNCTION_BLOCK PROGRAM END_PROGRAM VAR"
        + " VAR_INPUT VAR_OUTPUT END_VAR AT BOOL INT DINT ARRAY OF IF THEN ELSIF ELSE END_IF CASE END_CASE FOR TO BY DO"
        + " END_FOR EXIT RETURN OR XOR AND MOD NOT TRUE FALSE LADDER END_LADDER RUNG END_RUNG name number place"
        + " := .. <= >= <> ( ) [ ] , ; : . + - * / = < > & bar").split(" ");
    private static final String[] TEXTS = {
        "FUNCTION name : INT VAR_INPUT name , name : INT ; END_VAR VAR name : DINT := - number ; END_VAR name := name ;"
            + " END_FUNCTION FUNCTION_BLOCK name VAR name : BOOL := TRUE ; name AT place : name ; name : ARRAY [ - number .."
            + " number ] OF BOOL := FALSE ; END_VAR VAR_OUTPUT END_VAR END_FUNCTION_BLOCK FUNCTION name : BOOL END_FUNCTION",
        "FUNCTION_BLOCK name LADDER RUNG / name bar > name . name ( + name ) ; - * ( name ) ; END_RUNG RUNG < name ( - name ) ;"
            + " - - bar - ; * name ( / name ) ; END_RUNG END_LADDER END_FUNCTION_BLOCK PROGRAM name LADDER END_LADDER"
            + " END_PROGRAM",
        "PROGRAM name ; name := number + name * ( name - number ) MOD - number ; name [ name + number ] := name ( name , number )"
            + " ; name := NOT name AND name . name OR name [ number ] <> number & TRUE ; name ( ) ; name ( name := name ) ;"
            + " name ( name := FALSE , name := name ( ) ) ; END_PROGRAM",
        "PROGRAM name VAR END_VAR IF name THEN RETURN ; ELSIF name > number THEN ; ELSIF name THEN ELSE ; END_IF ; CASE name"
            + " / number OF number : ; number , - number .. - number , TRUE : name := number ; ELSE EXIT ; END_CASE ; CASE name"
            + " OF END_CASE ; FOR name := number TO number BY - number DO EXIT ; END_FOR ; FOR name := TRUE TO - number DO"
            + " END_FOR ; END_PROGRAM"};

    private static final Map<String, List<String[]>> GRAMMAR = new LinkedHashMap<>();
    private static TypeRules rules = new TypeRules();
    private static int calls = 0;

    public static void main(String[] args) {
        for (String rule : RULES) {
            String[] parts = rule.split(" = ", 2);
            List<String[]> choices = new ArrayList<>();
            for (String choice : parts[1].split("\\|")) {
                choices.add(choice.trim().isEmpty() ? new String[0] : choice.trim().split(" "));
            }
            GRAMMAR.put(parts[0], choices);
        }
        for (String text : TEXTS) {
            Check.sentence("no text of the grammar begins with all before it and it: " + text.substring(0, 40));
            everyTokenBehindEveryBeginning(text.split(" "));
        }
        Check.finish("GrammarTableTest");
    }

    /** What must still come: the next symbol and all behind it. */
    private record Rest(String symbol, Rest behind) {
    }

    private static Set<Rest> begin() {
        return expanded(new Rest("text", new Rest("end", null)));
    }

    /** All that may come instead of this, each with a token first. */
    private static Set<Rest> expanded(Rest rest) {
        Set<Rest> tokens = new LinkedHashSet<>();
        List<String[]> choices = GRAMMAR.get(rest.symbol());
        if (choices == null) {
            tokens.add(rest);
            return tokens;
        }
        for (String[] choice : choices) {
            Rest longer = rest.behind();
            for (int i = choice.length - 1; i >= 0; i--) {
                longer = new Rest(choice[i], longer);
            }
            tokens.addAll(expanded(longer));
        }
        return tokens;
    }

    private static Set<Rest> behind(Set<Rest> rests, String token) {
        Set<Rest> next = new LinkedHashSet<>();
        for (Rest rest : rests) {
            if (rest.symbol().equals(token)) {
                next.addAll(expanded(rest.behind()));
            }
        }
        return next;
    }

    private static boolean canCome(Set<Rest> rests, String token) {
        for (Rest rest : rests) {
            if (rest.symbol().equals(token)) {
                return true;
            }
        }
        return false;
    }

    private static String written(String token) {
        switch (token) {
            case "name": return "n";
            case "number": return "5";
            case "place": return "%MX1";
            case "bar": return "|";
            default: return token;
        }
    }

    private static void everyTokenBehindEveryBeginning(String[] text) {
        Set<Rest> rests = begin();
        StringBuilder before = new StringBuilder();
        for (int i = 0; i <= text.length; i++) {
            for (String token : TOKENS) {
                boolean can = canCome(rests, token);
                String next = before + written(token);
                // Behind a token that can come the byte that can't be read is the first fault.
                judge(next + " #", can ? 1 : 6, can ? next.length() + 1 : before.length());
            }
            boolean ends = canCome(rests, "end");
            judge(before.toString(), ends ? -1 : 6, ends ? -1 : before.length());
            if (i < text.length) {
                Check.is("the test's own text at " + text[i], canCome(rests, text[i]) ? 1 : 0, 1);
                rests = behind(rests, text[i]);
                before.append(written(text[i])).append(' ');
            }
        }
    }

    /** Of a text that can be read any fault of rules is due, which is told by -1. */
    private static void judge(String text, int fault, int place) {
        int due = text.length() / 20 + 5;
        if (calls + due > 500) {
            rules = new TypeRules();
            calls = 0;
        }
        calls += due;
        rules.clear();
        Check.write(rules, text);
        int got = rules.judge();
        if (fault == -1) {
            Check.is("judge() of " + Check.brief(text), got == 0 || got >= 10 ? 1 : 0, 1);
        } else {
            Check.is("judge() of " + Check.brief(text), got, fault);
            Check.is("count(1) of " + Check.brief(text), rules.count(1), place);
        }
    }
}

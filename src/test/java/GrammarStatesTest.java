import java.util.ArrayList;
import java.util.Arrays;
import java.util.List;

/**
 * The grammar, place by place: behind each beginning of a text every token is tried. One that can stand
 * there is left alone, and the fault is the bad byte behind it; one that can not is the fault itself.
 */
public final class GrammarStatesTest {
    private static final String ALL = "begin end integer boolean array procedure value own switch label if then else"
        + " for do step until while goto true false not and or div print x 1 + - * ^ ( ) [ ] , ; : := < <= = >= > #";

    private static final String TYPE = "integer boolean ";
    private static final String SIMPLEST = "x begin goto print ; ";
    private static final String PLAIN = SIMPLEST + "if for ";
    private static final String STATEMENT = PLAIN + "end ";
    private static final String DECLARATION = TYPE + "own procedure switch ";
    private static final String SPECIFICATION = TYPE + "label ";
    private static final String ATOM = "x 1 true false ( ";
    private static final String SUM = ATOM + "+ - ";
    private static final String SIMPLE = SUM + "not ";
    private static final String E = SIMPLE + "if ";
    private static final String RELATED = "^ * div + - and or ";
    private static final String OPERATOR = RELATED + "< <= = >= > # ";
    private static final String BRACKET = "( [ ";

    private final Checker checker = new Checker();
    private final List<String> tried = new ArrayList<>();

    public static void main(String[] args) {
        GrammarStatesTest test = new GrammarStatesTest();
        test.programs();
        test.nothings();
        test.variables();
        test.arrays();
        test.procedures();
        test.heads();
        test.switches();
        test.labels();
        test.assignments();
        test.callsJumpsAndPrints();
        test.choices();
        test.loops();
        test.conditionals();
        test.operators();
        test.brackets();
        test.checker.finish();
    }

    /** Behind a beginning just these tokens can stand; if there are any, the text is not complete. */
    private void behind(String beginning, String allowed) {
        List<String> known = Arrays.asList(allowed.trim().split(" +"));
        for (String token : ALL.split(" ")) {
            int place = beginning.length() + 1;
            int due = known.contains(token) ? place + token.length() : place;
            String text = beginning + " " + token + "?";
            checker.due("judge() of " + text, Checker.judge(new AlgolJudge(), text), due);
        }
        checker.due("judge() of " + beginning + " ?", Checker.judge(new AlgolJudge(), beginning + " ?"),
            beginning.length() + 1);
        if (!allowed.isEmpty()) {
            checker.due("judge() of " + beginning, Checker.judge(new AlgolJudge(), beginning), beginning.length());
        }
        checker.due("tried once: " + beginning, tried.contains(beginning) ? 1 : 0, 0);
        tried.add(beginning);
    }

    private void programs() {
        checker.sentence("PROGRAM: a BEGIN, and nothing more");
        behind("", "begin");
        behind("begin end", "");
        behind("begin ; end", "");
        behind("begin begin end end", "");
        checker.sentence("BEGIN: begin { DECLARATION \";\" } STATEMENT { \";\" STATEMENT } end");
        behind("begin", DECLARATION + STATEMENT);
        behind("begin begin", DECLARATION + STATEMENT);
        behind("begin ;", STATEMENT);
        behind("begin ; ;", STATEMENT);
        behind("begin x;", STATEMENT);
        behind("begin integer i;", DECLARATION + STATEMENT);
        behind("begin integer i; ;", STATEMENT);
        behind("begin begin end", "; end");
        behind("begin begin end;", STATEMENT);
    }

    private void nothings() {
        checker.sentence("PLAIN: nothing");
        checker.fine("begin end");
        checker.fine("begin ; end");
        checker.fine("begin ;; end");
        checker.fine("begin l: end");
        checker.fine("begin l: ; m: n: ; end");
        checker.fine("begin integer i; end");
        checker.fine("begin procedure p; ; end");
        checker.fine("begin procedure p; ; ; end");
        checker.fine("begin procedure p(a); integer a; ; end");
        checker.fine("begin if true then end");
        checker.fine("begin if true then; if true then else; end");
        checker.fine("begin if true then else if true then else end");
        checker.fine("begin integer i; for i := 1 do end");
        checker.fine("begin integer i; for i := 1 do; for i := 1 do if true then else end");
        checker.fine("begin procedure p; if true then; procedure q; if true then else; end");
        checker.fault("begin procedure p; |end");
        checker.fault("begin procedure p(a); integer a; |end");
        checker.fault("begin procedure p; if true then |end");
        checker.fault("begin integer i |end");
    }

    private void variables() {
        checker.sentence("[ own ] TYPE NAMES");
        behind("begin integer", "x array procedure");
        behind("begin boolean", "x array procedure");
        behind("begin own", TYPE);
        behind("begin own integer", "x");
        behind("begin own boolean", "x");
        behind("begin integer i", ", ;");
        behind("begin own integer i", ", ;");
        behind("begin integer i,", "x");
        behind("begin own integer i,", "x");
        behind("begin integer i, j", ", ;");
        behind("begin own boolean b;", DECLARATION + STATEMENT);
    }

    private void arrays() {
        checker.sentence("TYPE array SEGMENT { \",\" SEGMENT }");
        behind("begin integer array", "x");
        behind("begin integer array a", ", [");
        behind("begin integer array a,", "x");
        behind("begin integer array a, b", ", [");
        behind("begin integer array a[1:2]", ", ;");
        behind("begin integer array a[1:2],", "x");
        behind("begin integer array a[1:2], b", ", [");
        behind("begin boolean array a[1:2];", DECLARATION + STATEMENT);
        checker.sentence("SEGMENT: NAMES \"[\" BOUNDS [ \",\" BOUNDS ] \"]\"");
        behind("begin integer array a[", E);
        behind("begin integer array a[1", OPERATOR + ":");
        behind("begin integer array a[i", OPERATOR + BRACKET + ":");
        behind("begin integer array a[1:", E);
        behind("begin integer array a[1:2", OPERATOR + ", ]");
        behind("begin integer array a[1:i", OPERATOR + BRACKET + ", ]");
        behind("begin integer array a[1:2,", E);
        behind("begin integer array a[1:2, 3", OPERATOR + ":");
        behind("begin integer array a[1:2, 3:", E);
        behind("begin integer array a[1:2, 3:4", OPERATOR + "]");
        behind("begin integer array a[1:2, 3:4]", ", ;");
    }

    private void procedures() {
        checker.sentence("[ TYPE ] procedure NAME [ \"(\" NAMES \")\" ] \";\"");
        behind("begin procedure", "x");
        behind("begin integer procedure", "x");
        behind("begin procedure p", "( ;");
        behind("begin boolean procedure p", "( ;");
        behind("begin procedure p(", "x");
        behind("begin procedure p(a", ", )");
        behind("begin procedure p(a,", "x");
        behind("begin procedure p(a, b", ", )");
        behind("begin procedure p(a)", ";");
        behind("begin procedure p;", PLAIN);
        behind("begin procedure p; begin end", ";");
        behind("begin procedure p; goto l", "[ ;");
        behind("begin procedure p; x", BRACKET + ":= ;");
        behind("begin procedure p; x := 1", OPERATOR + ";");
        behind("begin procedure p; if true then", SIMPLEST + "else");
        behind("begin procedure p; if true then else", PLAIN);
        behind("begin procedure p; ;", DECLARATION + STATEMENT);
    }

    private void heads() {
        checker.sentence("value and SPECIFICATIONS only behind \"(\"");
        behind("begin procedure p(a);", "value " + SPECIFICATION + PLAIN);
        behind("begin procedure p(a); value", "x");
        behind("begin procedure p(a); value a", ", ;");
        behind("begin procedure p(a); value a,", "x");
        behind("begin procedure p(a); value a;", SPECIFICATION + PLAIN);
        checker.sentence("SPECIFICATION: TYPE NAMES or TYPE array NAMES or label NAMES");
        behind("begin procedure p(a); integer", "x array");
        behind("begin procedure p(a); boolean", "x array");
        behind("begin procedure p(a); label", "x");
        behind("begin procedure p(a); integer array", "x");
        behind("begin procedure p(a); integer a", ", ;");
        behind("begin procedure p(a); integer array a", ", ;");
        behind("begin procedure p(a); label a", ", ;");
        behind("begin procedure p(a); integer a,", "x");
        behind("begin procedure p(a); integer array a,", "x");
        behind("begin procedure p(a); label a,", "x");
        behind("begin procedure p(a); integer a;", SPECIFICATION + PLAIN);
        behind("begin procedure p(a); integer array a;", SPECIFICATION + PLAIN);
        behind("begin procedure p(a); label a;", SPECIFICATION + PLAIN);
        behind("begin procedure p(a); integer a; ;", DECLARATION + STATEMENT);
        behind("begin procedure p(a); integer a; x", BRACKET + ":= ;");
    }

    private void switches() {
        checker.sentence("switch NAME \":=\" NAMES");
        behind("begin switch", "x");
        behind("begin switch s", ":=");
        behind("begin switch s :=", "x");
        behind("begin switch s := l", ", ;");
        behind("begin switch s := l,", "x");
        behind("begin switch s := l, m", ", ;");
        behind("begin switch s := l;", DECLARATION + STATEMENT);
    }

    private void labels() {
        checker.sentence("STATEMENT: { NAME \":\" } PLAIN; labels only where the statement is one of a BEGIN");
        behind("begin x", BRACKET + ": := ; end");
        behind("begin l:", STATEMENT);
        behind("begin l: x", BRACKET + ": := ; end");
        behind("begin l: m:", STATEMENT);
        behind("begin ; x", BRACKET + ": := ; end");
        behind("begin if true then begin x", BRACKET + ": := ; end");
        behind("begin if true then x", BRACKET + ":= else ; end");
        behind("begin if true then else x", BRACKET + ":= ; end");
        behind("begin for i := 1 do x", BRACKET + ":= ; end");
    }

    private void assignments() {
        checker.sentence("LEFT \":=\" { LEFT \":=\" } E");
        behind("begin x :=", E);
        behind("begin x := y", OPERATOR + BRACKET + ":= ; end");
        behind("begin x := 1", OPERATOR + "; end");
        behind("begin x := true", OPERATOR + "; end");
        behind("begin x := y :=", E);
        behind("begin x := y := z", OPERATOR + BRACKET + ":= ; end");
        behind("begin x := y[1]", OPERATOR + ":= ; end");
        behind("begin x := y[1, 2]", OPERATOR + ":= ; end");
        behind("begin x := y[z[1]] :=", E);
        behind("begin x := y(1)", OPERATOR + "; end");
        behind("begin x := y + z", OPERATOR + BRACKET + "; end");
        behind("begin x := y + z[1]", OPERATOR + "; end");
        behind("begin x := y := -z", OPERATOR + BRACKET + "; end");
        behind("begin x := not z", OPERATOR + BRACKET + "; end");
        behind("begin x := (y)", OPERATOR + "; end");
        behind("begin x := if y then z else u", OPERATOR + BRACKET + "; end");
        checker.sentence("LEFT: NAME [ \"[\" E [ \",\" E ] \"]\" ]");
        behind("begin x[", E);
        behind("begin x[1", OPERATOR + ", ]");
        behind("begin x[1,", E);
        behind("begin x[1, 2", OPERATOR + "]");
        behind("begin x[1]", ":=");
        behind("begin x[1, 2]", ":=");
        behind("begin x[1] :=", E);
        behind("begin x := y[1] := z[", E);
        behind("begin x := y[1] := z[1", OPERATOR + ", ]");
    }

    private void callsJumpsAndPrints() {
        checker.sentence("NAME [ \"(\" ACTUALS \")\" ]");
        behind("begin x(", E);
        behind("begin x(1", OPERATOR + ", )");
        behind("begin x(y", OPERATOR + BRACKET + ", )");
        behind("begin x(1,", E);
        behind("begin x(1, 2", OPERATOR + ", )");
        behind("begin x(1, 2, 3, 4, 5, 6, 7", OPERATOR + ", )");
        behind("begin x(1)", "; end");
        checker.sentence("goto NAME [ \"[\" E \"]\" ]");
        behind("begin goto", "x");
        behind("begin goto l", "[ ; end");
        behind("begin goto l[", E);
        behind("begin goto l[1", OPERATOR + "]");
        behind("begin goto l[1]", "; end");
        checker.sentence("print \"(\" E \")\"");
        behind("begin print", "(");
        behind("begin print(", E);
        behind("begin print(1", OPERATOR + ")");
        behind("begin print(1)", "; end");
    }

    private void choices() {
        checker.sentence("if E then PLAIN [ else PLAIN ] (behind then no if, no for)");
        behind("begin if", E);
        behind("begin if 1", OPERATOR + "then");
        behind("begin if x", OPERATOR + BRACKET + "then");
        behind("begin if true then", SIMPLEST + "else end");
        behind("begin if true then begin", DECLARATION + STATEMENT);
        behind("begin if true then begin end", "else ; end");
        behind("begin if true then ;", STATEMENT);
        behind("begin if true then goto l", "[ else ; end");
        behind("begin if true then print(1)", "else ; end");
        behind("begin if true then x := 1", OPERATOR + "else ; end");
        behind("begin if true then x := if y then 1", OPERATOR + "else");
        behind("begin if true then x := if y then 1 else 2", OPERATOR + "else ; end");
        behind("begin if true then else", STATEMENT);
        behind("begin if true then x else", STATEMENT);
        behind("begin if true then else begin end", "; end");
        behind("begin if true then else if true then", SIMPLEST + "else end");
        behind("begin if true then else if true then x", BRACKET + ":= else ; end");
        behind("begin if true then else if true then else", STATEMENT);
        behind("begin if true then else for i := 1 do", STATEMENT);
    }

    private void loops() {
        checker.sentence("for NAME \":=\" ELEMENT { \",\" ELEMENT } do PLAIN");
        behind("begin for", "x");
        behind("begin for i", ":=");
        behind("begin for i :=", E);
        behind("begin for i := 1", OPERATOR + ", step while do");
        behind("begin for i := x", OPERATOR + BRACKET + ", step while do");
        behind("begin for i := 1,", E);
        behind("begin for i := 1, 2", OPERATOR + ", step while do");
        behind("begin for i := 1 do", STATEMENT);
        behind("begin for i := 1 do begin end", "; end");
        behind("begin for i := 1 do for j := 1 do", STATEMENT);
        behind("begin for i := 1 do if true then", SIMPLEST + "else end");
        behind("begin for i := 1 do if true then else", STATEMENT);
        checker.sentence("ELEMENT: E or E step E until E or E while E");
        behind("begin for i := 1 step", E);
        behind("begin for i := 1 step 2", OPERATOR + "until");
        behind("begin for i := 1 step 2 until", E);
        behind("begin for i := 1 step 2 until 3", OPERATOR + ", do");
        behind("begin for i := 1 step 2 until 3,", E);
        behind("begin for i := 1 while", E);
        behind("begin for i := 1 while true", OPERATOR + ", do");
        behind("begin for i := 1 while true,", E);
    }

    private void conditionals() {
        checker.sentence("E: if E then SIMPLE else E, or SIMPLE");
        behind("begin print(if", E);
        behind("begin print(if true", OPERATOR + "then");
        behind("begin print(if true then", SIMPLE);
        behind("begin print(if true then 1", OPERATOR + "else");
        behind("begin print(if true then x", OPERATOR + BRACKET + "else");
        behind("begin print(if true then 1 else", E);
        behind("begin print(if true then 1 else 2", OPERATOR + ")");
        behind("begin print(if true then 1 else if", E);
        behind("begin print(if true then 1 else if true then", SIMPLE);
        behind("begin print(if true then 1 else if true then 2 else", E);
        behind("begin print(if if", E);
        behind("begin print(if if true then true else true", OPERATOR + "then");
    }

    private void operators() {
        checker.sentence("SIMPLE: CONJUNCTION { or CONJUNCTION }");
        behind("begin print(true or", SIMPLE);
        behind("begin print(true or true", OPERATOR + ")");
        checker.sentence("CONJUNCTION: DENIAL { and DENIAL }");
        behind("begin print(true and", SIMPLE);
        behind("begin print(true and true", OPERATOR + ")");
        checker.sentence("DENIAL: not DENIAL or RELATION");
        behind("begin print(not", SIMPLE);
        behind("begin print(not not", SIMPLE);
        behind("begin print(not true", OPERATOR + ")");
        checker.sentence("RELATION: SUM [ SIGN SUM ], SIGN of < <= = >= > #");
        for (String sign : "< <= = >= > #".split(" ")) {
            behind("begin print(1 " + sign, SUM);
            behind("begin print(1 " + sign + " 2", RELATED + ")");
            behind("begin print(not 1 " + sign + " 2 + 3", RELATED + ")");
            behind("begin print(1 " + sign + " 2 and 3", OPERATOR + ")");
        }
        checker.sentence("SUM: [ + or - ] TERM { + TERM or - TERM }");
        for (String sign : "+ -".split(" ")) {
            behind("begin print(" + sign, ATOM);
            behind("begin print(" + sign + " 1", OPERATOR + ")");
            behind("begin print(1 " + sign, ATOM);
            behind("begin print(1 " + sign + " 2", OPERATOR + ")");
            behind("begin print(1 < " + sign, ATOM);
        }
        checker.sentence("TERM: POWER { \"*\" POWER or div POWER }; POWER: ATOM { \"^\" ATOM }");
        for (String sign : "* div ^".split(" ")) {
            behind("begin print(1 " + sign, ATOM);
            behind("begin print(1 " + sign + " 2", OPERATOR + ")");
            behind("begin print(- 1 " + sign, ATOM);
        }
    }

    private void brackets() {
        checker.sentence("ATOM: NUMBER, true, false, \"(\" E \")\", NAME, NAME \"[\" E [ \",\" E ] \"]\"");
        behind("begin print(true", OPERATOR + ")");
        behind("begin print(false", OPERATOR + ")");
        behind("begin print(x", OPERATOR + BRACKET + ")");
        behind("begin print((", E);
        behind("begin print((1", OPERATOR + ")");
        behind("begin print((1)", OPERATOR + ")");
        behind("begin print(x[", E);
        behind("begin print(x[1", OPERATOR + ", ]");
        behind("begin print(x[1,", E);
        behind("begin print(x[1, 2", OPERATOR + "]");
        behind("begin print(x[1]", OPERATOR + ")");
        behind("begin print(x[1, 2]", OPERATOR + ")");
        checker.sentence("NAME \"(\" ACTUALS \")\"");
        behind("begin print(x(", E);
        behind("begin print(x(1", OPERATOR + ", )");
        behind("begin print(x(y", OPERATOR + BRACKET + ", )");
        behind("begin print(x(1,", E);
        behind("begin print(x(1, 2", OPERATOR + ", )");
        behind("begin print(x(1)", OPERATOR + ")");
    }
}

import java.util.Arrays;
import java.util.List;

/** The boundary cases of what "Terms" says on the FAULT of a text, where the grammar is kept. */
public final class EdgesOfFaultsTest {
    /** A text with a name of every kind, and in a procedure's body, where all are seen, the place for a statement. */
    private static final String BEFORE = "begin integer i; boolean b; own integer oi; integer array a[1:2], c[1:2, 1:2];"
        + " boolean array d[1:2]; procedure p; ; procedure p1(x); integer x; ; integer procedure f; ;"
        + " integer procedure f1(x); integer x; ; boolean procedure g; ; boolean procedure g1(x); boolean x; ;"
        + " procedure ti(x); integer x; ; procedure tb(x); boolean x; ; procedure ta(x); integer array x; ;"
        + " procedure td(x); boolean array x; ; procedure tl(x); label x; ; switch s := l;"
        + " integer procedure me(n, m, v, w, u, z); value v; integer n, v; boolean m; integer array w; boolean array u;"
        + " label z; ";
    private static final String BEHIND = "; l: end";

    /** nil means nothing. */
    private static final String ALL = "i b oi a c d p p1 f f1 g g1 s l n m v w u z me nil";
    private static final String INTEGERS = "i oi n v f";
    private static final String BOOLEANS = "b m g";
    private static final String INTEGER_LEFTS = "i oi n v me";
    private static final String BOOLEAN_LEFTS = "b m";

    private final Checker checker = new Checker();

    public static void main(String[] args) {
        EdgesOfFaultsTest test = new EdgesOfFaultsTest();
        test.grammarComesFirst();
        test.firstInTheText();
        test.declaredWhereItCanNotBe();
        test.lefts();
        test.resultsOutsideOfTheirProcedure();
        test.jumps();
        test.statementCalls();
        test.forNames();
        test.integersNeeded();
        test.booleansNeeded();
        test.subscriptsAndActuals();
        test.numberOfActuals();
        test.numberOfSubscripts();
        test.parameters();
        test.notANameAlone();
        test.notSpecified();
        test.leftsOfOneAssignment();
        test.branchesOfAnIf();
        test.wrongNumberHasItsType();
        test.noType();
        test.operatorsHaveAType();
        test.checker.finish();
    }

    /**
     * A statement with every name for @: some are fine there; of some the fault is at |, by their type; of all
     * others it is the name itself.
     */
    private void stands(String context, String fine, String byType) {
        List<String> good = Arrays.asList(fine.split(" "));
        List<String> typed = Arrays.asList(byType.split(" "));
        for (String name : ALL.split(" ")) {
            if (good.contains(name)) {
                checker.fine(BEFORE + context.replace("|", "").replace("@", name) + BEHIND);
            } else if (typed.contains(name)) {
                checker.fault(BEFORE + context.replace("@", name) + BEHIND);
            } else {
                checker.fault(BEFORE + context.replace("|", "").replaceFirst("@", "|@").replace("@", name) + BEHIND);
            }
        }
    }

    private void stands(String context, String fine) {
        stands(context, fine, "");
    }

    private void fine(String statement) {
        checker.fine(BEFORE + statement + BEHIND);
    }

    private void fault(String marked) {
        checker.fault(BEFORE + marked + BEHIND);
    }

    private void grammarComesFirst() {
        checker.sentence("first, if it is not as the grammar says");
        fault("begin nil := nil; i := true; goto i; i |1 end");
        fault("begin integer i, i; |1 end");
        fault("begin procedure p(q); ; nil; |) end");
        checker.fault("begin nil end |;");
        checker.fault("begin nil|");
        checker.fault("begin nil := true |? end");
        checker.fault("begin |nil end");
    }

    private void firstInTheText() {
        checker.sentence("Else the place of the first, as they stand in the text, that is wrong");
        fault("begin i := |true; nil := 1 end");
        fault("begin |nil := 1; i := true end");
        fault("begin integer x, |x; nil := 1 end");
        fault("begin procedure q; |nil := 1; integer x, x; end");
        // Found out only further behind, but it stands in front.
        fault("begin procedure q(|x); nil := 1; end");
        fault("begin procedure q(x); value |x; label x; nil := 1; end");
        fault("i := |f(nil)");
        fault("i := |a[nil, true]");
        fault("i := |c[true]");
        fault("|p1(nil, 2)");
        fault("|p(true)");
        fault("i := |f1(true, nil)");
        fault("|i[nil] := true");
        fault("i := |(nil < 1)");
        fault("b := |if b then 1 else nil");
        fault("print(|not nil)");
        // And the other way round.
        fault("i := a[|nil] + nil");
        fault("i := f1(|true) + nil");
        fault("i := 1 + |nil + true");
        fault("i := if |1 then nil else true");
    }

    private void declaredWhereItCanNotBe() {
        checker.sentence("a NAME that is declared, given as value or specified where it can not be (of a parameter that is"
            + " not specified: where it stands in the procedure's head)");
        fine("begin integer i, b; procedure q(i, b); value b; label i; integer b; ; i := b end");
        fault("begin integer q; boolean |q; end");
        fault("begin integer q; procedure |q; ; end");
        fault("begin q: begin q: end; |q: end");
        fault("begin procedure q(x, |x); integer x; ; end");
        fault("begin procedure q(x); value |i; integer x; ; end");
        fault("begin procedure q(x); value x, |x; integer x; ; end");
        fault("begin procedure q(x); value |x; integer array x; ; end");
        fault("begin procedure q(x); integer x, |i; ; end");
        fault("begin procedure q(x); integer x; label |x; ; end");
        fault("begin procedure q(x, |y, z); integer x, z; ; end");
        // In the head, and so in front of all that is wrong in what comes behind it.
        fault("begin procedure q(x, |y); value i, y; integer i, x; nil := 1; end");
        fault("begin procedure q(|x, y); value i; integer i, y; ; end");
    }

    private void lefts() {
        checker.sentence("LEFT is a variable, a subscripted array, a parameter that is integer or boolean");
        stands("@ := |1", INTEGER_LEFTS, BOOLEAN_LEFTS);
        stands("@ := |true", BOOLEAN_LEFTS, INTEGER_LEFTS);
        stands("i := @ := 1", INTEGER_LEFTS);
        stands("b := @ := true", BOOLEAN_LEFTS);
        stands("@[1] := |2", "a w", "d u");
        stands("@[1] := |true", "d u", "a w");
        stands("@[1, 2] := |3", "c w", "u");
        stands("@[1, 2] := |true", "u", "c w");
        stands("i := @[1] := 1", "a w");
        stands("b := @[1] := true", "d u");
        stands("i := @[1, 2] := 1", "c w");
    }

    private void resultsOutsideOfTheirProcedure() {
        checker.sentence("or, in a procedure with a TYPE (and in procedures in it), its NAME");
        fine("begin me := 1; begin me := 2 end; if b then me := 3; for i := 1 do me := 4 end");
        fine("begin procedure q; me := 1; procedure r; begin procedure t; me := 2; end; end");
        fine("begin boolean procedure q; begin q := true; me := 1 end; end");
        fault("begin boolean procedure q; q := true; |q := true end");
        fault("begin boolean procedure q; q := true; procedure r; |q := true; end");
        fault("begin procedure q; |q := 1; end");
        fault("begin integer procedure q(x); integer x; q := x; i := |q := 1 end");
        checker.fault("begin integer procedure f; f := 1; |f := 1 end");
        checker.fault("begin integer procedure f; f := 1; integer procedure g; |f := 1; end");
        checker.fault("begin integer procedure f; |f[true] := 1; end");
        checker.fine("begin integer procedure f(x); integer x; begin procedure g(f); boolean f; f := true; f := 1 end; end");
        checker.fault("begin integer procedure f(x); integer x; begin procedure g(f); boolean f; f := |1; f := 1 end; end");
    }

    private void jumps() {
        checker.sentence("goto's NAME, and those of a switch, are labels or parameters that are; goto's with [ ] a switch.");
        stands("goto @", "l z");
        stands("begin switch t := @; end", "l z");
        stands("begin switch t := l, @, z; end", "l z");
        stands("goto @[1]", "s");
        fault("goto s[|true]");
        fault("goto s[|b]");
        fault("goto s[|nil]");
        fault("goto |l[nil]");
    }

    private void statementCalls() {
        checker.sentence("A call as a statement may be of any procedure, in an E of one with a TYPE.");
        stands("@", "p f g");
        stands("@(|1)", "p1 f1", "g1");
        stands("@(|true)", "g1", "p1 f1");
        stands("i := @", INTEGERS);
        stands("i := @(1)", "f1");
        stands("b := @", BOOLEANS);
        stands("b := @(|1)", "", "g1");
        stands("b := @(true)", "g1");
    }

    private void forNames() {
        checker.sentence("for's NAME is a variable or a parameter.");
        stands("for @ := 1 do", "i oi n v");
        stands("for @ := 1 step 1 until 2 do i := 1", "i oi n v");
    }

    private void integersNeeded() {
        checker.sentence("integers: subscripts, bounds, for's variable and its elements but the E behind while, + - * ^ div,"
            + " < <= = >= > #, print");
        String[] contexts = {"print(@)", "a[@] := 1", "c[@, 1] := 1", "c[1, @] := 1", "i := a[@]", "i := c[1, @]", "goto s[@]",
            "for i := @ do", "for i := 1, @ do", "for i := @ step 1 until 2 do", "for i := 1 step @ until 2 do",
            "for i := 1 step 1 until @ do", "for i := @ while b do", "i := + @", "i := - @", "i := @ + 1", "i := 1 + @",
            "i := @ - 1", "i := 1 - @", "i := @ * 2", "i := 2 * @", "i := @ ^ 2", "i := 2 ^ @", "i := @ div 2", "i := 2 div @",
            "b := @ < 1", "b := 1 < @", "b := @ <= 1", "b := 1 <= @", "b := @ = 1", "b := 1 = @", "b := @ >= 1", "b := 1 >= @",
            "b := @ > 1", "b := 1 > @", "b := @ # 1", "b := 1 # @", "i := 1 + 2 * 3 ^ @", "b := - 1 < 2 + @ and b",
            "begin integer array q[@:2]; end", "begin integer array q[1:@]; end", "begin boolean array q[1:2, @:2]; end",
            "begin boolean array q[1:2, 3:@]; end", "ti(@)", "i := if b then 1 else @"};
        for (String context : contexts) {
            stands(context, INTEGERS);
        }
    }

    private void booleansNeeded() {
        checker.sentence("booleans: behind if, while, not, and, or");
        String[] contexts = {"if @ then", "if @ then else", "for i := 1 while @ do", "b := not @", "b := not not @",
            "b := @ and b", "b := b and @", "b := @ or b", "b := b or @", "b := b or b and @", "b := b and b or @",
            "i := if @ then 1 else 2", "tb(@)", "b := if b then b else @", "b := b or not @ and b"};
        for (String context : contexts) {
            stands(context, BOOLEANS);
        }
        // An E behind while is the only one of an element that is boolean.
        fault("for i := 1 while |1 do");
        fault("for i := |b while b do");
        fine("for i := 1 while b, 2 while 1 < 2 do");
    }

    private void subscriptsAndActuals() {
        checker.sentence("a NAME that means nothing, or what can not stand there");
        stands("i := @[1]", "a w");
        stands("b := @[1]", "d u");
        stands("i := @[1, 2]", "c w");
        stands("b := @[1, 2]", "u");
        stands("print(@[1] + 1)", "a w");
        stands("if @[1] then", "d u");
    }

    private void numberOfActuals() {
        checker.sentence("of a call with another number of ACTUALS its NAME");
        fine("begin p; p1(1); f; f1(1); me(1, b, 2, a, d, l) end");
        fault("|p(1)");
        fault("|p1");
        fault("|p1(1, 2)");
        fault("|f(1)");
        fault("|f1");
        fault("|f1(1, 1)");
        fault("i := |f(1)");
        fault("i := |f1");
        fault("i := |f1(1, 2)");
        fault("|me");
        fault("|me(1)");
        fault("|me(1, b, 2, a, d)");
        fault("|me(1, b, 2, a, d, l, l)");
        fault("i := |me(1, b, 2, a, d)");
        fine("i := me(1, b, 2, a, d, l)");
        checker.sentence("A procedure that needs no ACTUALS is called by its NAME.");
        fine("begin p; f; g; i := f; b := g; ti(f); tb(g); a[f] := f end");
    }

    private void numberOfSubscripts() {
        checker.sentence("of a NAME with another number of subscripts that NAME");
        fine("begin a[1] := c[1, 2] := a[a[1]]; c[1, c[1, 1]] := 1; w[1] := w[1, 2] := 3 end");
        fault("|a[1, 2] := 1");
        fault("|c[1] := 1");
        fault("i := |a[1, 2]");
        fault("i := |c[1]");
        fault("a[|a[1, 2]] := 1");
        fault("a[1] := |c[1] := 1");
        fault("|d[1, 2] := true");
        checker.sentence("as many subscripts as are used in the procedure is found when it runs");
        fine("begin w[1] := 1; w[1, 2] := 1; i := w[1] + w[1, 2]; u[1] := u[1, 2]; ta(a); ta(c); ta(w) end");
    }

    private void parameters() {
        checker.sentence("parameters: the type specified, an array's NAME alone");
        stands("ti(@)", INTEGERS);
        stands("tb(@)", BOOLEANS);
        stands("ta(@)", "a c w");
        stands("td(@)", "d u");
        checker.sentence("a label's NAME (or a parameter that is one)");
        stands("tl(@)", "l z");
        stands("me(1, b, 2, @, d, l)", "a c w");
        stands("me(1, b, 2, a, @, l)", "d u");
        stands("i := me(1, b, 2, a, d, @)", "l z");
        fine("begin ti(1 + i); ti((i)); ti(a[1]); ti(if b then 1 else 2); tb(not b); tb(1 < 2); tb(d[1]); tb((b)) end");
        fault("ti(|1 < 2)");
        fault("ti(|(b))");
        fault("ti(|d[1])");
        fault("ti(|if b then b else b)");
        fault("tb(|1 + 2)");
        fault("tb(|a[1])");
        fault("tb(|- i)");
    }

    private void notANameAlone() {
        checker.sentence("an array's NAME alone");
        fault("ta(|a[1])");
        fault("ta(|1)");
        fault("ta(|true)");
        fault("ta(|a + 1)");
        fault("ta(|- 1)");
        fault("ta(|f1(1))");
        fault("td(|d[1])");
        fault("td(|not b)");
        checker.sentence("a label's NAME (or a parameter that is one)");
        fault("tl(|s[1])");
        fault("tl(|1)");
        fault("tl(|i + 1)");
        fault("tl(|a[1])");
        fault("tl(|f1(1))");
        fault("tl(|if b then 1 else 2)");
    }

    private void notSpecified() {
        checker.sentence("of one that is not specified nothing");
        for (String actual : "1 true i b a c d f g l z w u i<1 -i (b) a[1] not~b".split(" ")) {
            fault("begin procedure q; r(" + actual.replace('~', ' ') + "); procedure r(|x); ; end");
        }
        for (String actual : "|nil 1+|true not~|1 |f1 |p |s |a[1,2] a[|b] |nil[1]".split(" ")) {
            fault("begin procedure q; r(" + actual.replace('~', ' ') + "); procedure r(x); ; end");
        }
        fault("begin procedure q; |r(1, 2); procedure r(x); ; end");
        fault("begin procedure q; |r; procedure r(x); ; end");
        // Of the other parameters what they need is needed.
        fault("begin procedure q; r(1, |2); procedure r(x, y); boolean y; ; end");
        fault("begin procedure q; r(1, b); procedure r(|x, y); boolean y; ; end");
    }

    private void leftsOfOneAssignment() {
        checker.sentence("of an assignment all LEFTS the type of the first one");
        fine("begin i := oi := a[1] := n := w[1] := me := 1; b := d[1] := m := u[1] := true end");
        fault("i := |b := 1");
        fault("i := |b := true");
        fault("b := |i := true");
        fault("b := |i := 1");
        fault("i := oi := |b := 1");
        fault("i := |b := oi := 1");
        fault("i := |d[1] := 1");
        fault("a[1] := |d[1] := 1");
        fault("i := oi := |true");
        fault("b := m := |1");
        fault("me := |m := 1");
        fault("i := n := |m := true");
    }

    private void branchesOfAnIf() {
        checker.sentence("the branches of an if: the type of the first");
        fine("begin i := if b then 1 else 2; b := if b then b else 1 < 2; i := if b then 1 else if b then 2 else 3 end");
        fault("i := if b then 1 else |true");
        fault("b := if b then true else |1");
        fault("i := |if b then true else 1");
        fault("i := |if b then true else false");
        fault("b := |if b then 1 else true");
        fault("i := if b then 1 else |if b then true else 2");
        fault("i := if b then 1 else if b then 2 else |true");
        fault("i := 1 + (if b then 1 else |true)");
        fault("i := 1 + |(if b then true else 1)");
        stands("i := |if b then @ else 1", INTEGERS, BOOLEANS + " g1");
        stands("b := |if b then @ else true", BOOLEANS, INTEGERS + " f1 me");
    }

    private void wrongNumberHasItsType() {
        checker.sentence("A NAME that is wrong by its number of subscripts or ACTUALS has its type all the same");
        stands("i := |(@)", INTEGERS, BOOLEANS + " g1");
        stands("b := |(@)", BOOLEANS, INTEGERS + " f1 me");
        stands("i := |(@[1])", "a w", "d u");
        stands("b := |(@[1])", "d u", "a w c");
        stands("i := |(@[1, 2])", "c w", "d u");
        stands("b := |(@[1, 2])", "u", "a c w");
        stands("i := |(@(1))", "f1", "g g1");
        stands("b := |(@(true))", "g1", "f f1 me");
        fault("i := if b then |a[1, 2] else true");
        fault("i := if b then |f(1) else true");
        fault("b := |if b then a[1, 2] else true");
        fault("b := |if b then f(1) else true");
        fault("i := if b then 1 else |(d[1, 2])");
        fault("i := if b then 1 else (|a[1, 2])");
    }

    private void noType() {
        checker.sentence("what means nothing, or can not stand there, has none, and of it, and of an if whose first"
            + " branch it is, nothing is needed");
        String[] without = {"nil", "nil[1]", "nil(1)", "p", "p1(1)", "s", "s[1]", "l", "l[1]", "z", "i[1]", "b[1]", "i(1)", "a(1)",
            "f[1]", "n[1]", "n(1)", "w(1)", "m(1)", "me[1]"};
        for (String part : without) {
            fault("i := (|" + part + ")");
            fault("b := (|" + part + ")");
            fault("i := ((|" + part + "))");
            fault("i := 1 + (|" + part + ")");
            fault("b := b and (|" + part + ")");
            fault("b := not (|" + part + ")");
            fault("b := (|" + part + ") < 1");
            fault("if (|" + part + ") then");
            fault("print((|" + part + "))");
            fault("i := if b then |" + part + " else 1");
            fault("i := if b then |" + part + " else true");
            fault("b := if b then |" + part + " else 1");
            fault("i := (if b then |" + part + " else true) + 1");
            fault("b := (if b then |" + part + " else 1) or b");
            fault("i := if b then (|" + part + ") else true");
            fault("i := if b then (if b then |" + part + " else b) else true");
            fault("i := if (|" + part + ") then 1 else true");
            fault("ti((|" + part + "))");
            fault("tb((|" + part + "))");
        }
        // It is the first branch that counts, not the second.
        fault("b := |if b then 1 else nil");
        fault("i := |(if b then b else nil)");
        fault("i := if b then 1 else (|nil)");
    }

    private void operatorsHaveAType() {
        checker.sentence("the first token of an E that is not of the type needed there");
        for (String sign : "+ - * ^ div".split(" ")) {
            fault("b := |(nil " + sign + " 1)");
            fault("b := |(1 " + sign + " nil)");
            fault("b := |nil " + sign + " 1");
            fault("i := (|nil " + sign + " 1)");
            fault("i := (|b " + sign + " 1) + 1");
        }
        for (String sign : "< <= = >= > # and or".split(" ")) {
            fault("i := |(nil " + sign + " nil)");
            fault("i := |(nil " + sign + " nil and nil)");
            fault("i := |(nil " + sign + " nil or nil)");
            fault("b := (|nil " + sign + " nil)");
        }
        fault("i := |(not nil)");
        fault("b := |(- nil)");
        fault("b := |(+ nil)");
        fault("b := (not |nil)");
        fault("i := (- |nil)");
        fault("i := |if b then nil < 1 else b");
        fault("b := |if b then nil + 1 else 1");
        // The first token: of a SUM its sign, of a part behind an operator the part's own.
        fault("b := |- i");
        fault("b := |+ i");
        fault("i := - |b");
        fault("i := - |b + 1");
        fault("b := b and |- i");
        fault("b := |- i and b");
        fault("b := 1 < - |b");
        fault("i := |- 1 < 2");
        fault("i := |((b))");
        fault("i := 1 + |((b))");
        fault("i := |not b");
    }
}

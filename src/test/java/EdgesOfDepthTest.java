/** The boundary cases of what "Terms" says on what is one deeper, and how deep it may be. */
public final class EdgesOfDepthTest {
    private static final String HEAD = "begin integer i; boolean b; integer array a[1:2]; switch s := l;"
        + " procedure p(x); integer x; ; integer procedure f(x); integer x; f := x;"
        + " integer procedure g(x, y); integer x, y; g := x; boolean procedure h(x); boolean x; h := x; l: ";

    private final Checker checker = new Checker();

    public static void main(String[] args) {
        EdgesOfDepthTest test = new EdgesOfDepthTest();
        test.blocksAndProcedures();
        test.conditionals();
        test.denials();
        test.roundBrackets();
        test.squareBrackets();
        test.branchesAndLoops();
        test.bracketsThatAreNotDeeper();
        test.whatElseIsNotDeeper();
        test.upToItsEnd();
        test.deepestOfEachKind();
        test.tooDeepComesWhereItStands();
        test.theNextTextBeginsAtTheTop();
        test.checker.finish();
    }

    /** A text with a part that stands so many deep: what is in the program's begin alone is 1 deep. */
    private static String at(int depth, String part) {
        return HEAD + Checker.times(depth - 1, "begin ") + part + Checker.times(depth, " end");
    }

    /** What goes one deeper at the | in it, which may stand 19 deep and not 20. */
    private void oneDeeper(String marked) {
        String plain = marked.replace("|", "");
        checker.fine(at(2, plain));
        checker.fine(at(18, plain));
        checker.fine(at(19, plain));
        checker.fault(at(20, marked));
    }

    /** What goes two deeper, the second time at the | in it. */
    private void twoDeeper(String marked) {
        String plain = marked.replace("|", "");
        checker.fine(at(18, plain));
        checker.fault(at(19, marked));
    }

    /** What is not deeper at all. */
    private void noDeeper(String plain) {
        checker.fine(at(2, plain));
        checker.fine(at(20, plain));
    }

    private void blocksAndProcedures() {
        checker.sentence("These tokens begin what is one deeper, up to its end: begin, procedure");
        oneDeeper("|begin end");
        oneDeeper("; |begin end; begin end");
        oneDeeper("|procedure q; ;");
        oneDeeper("integer |procedure q; ;");
        oneDeeper("boolean |procedure q; ; procedure r; ;");
        oneDeeper("m: |begin end");
        twoDeeper("procedure q; |begin end;");
        twoDeeper("begin |begin end end");
        twoDeeper("begin |procedure q; ; end");
        twoDeeper("integer procedure q; q := |(1);");
        twoDeeper("procedure q; if b |then;");
    }

    private void conditionals() {
        checker.sentence("if (of an E)");
        oneDeeper("i := |if b then 1 else 2");
        oneDeeper("b := |if b then b else b");
        oneDeeper("if |if b then b else b then");
        twoDeeper("print(|if b then 1 else 2)");
        twoDeeper("i := if |if b then b else b then 1 else 2");
        twoDeeper("i := if b then 1 else |if b then 2 else 3");
        twoDeeper("i := if |(b) then 1 else 2");
        twoDeeper("i := if b then |(1) else 2");
        twoDeeper("i := if b then 1 else |(2)");
        twoDeeper("i := if b then 1 else 2 + |(2)");
        twoDeeper("b := if b then |not b else b");
    }

    private void denials() {
        checker.sentence("These tokens begin what is one deeper, up to its end");
        oneDeeper("b := |not b");
        oneDeeper("b := b and |not b");
        oneDeeper("if |not b then");
        oneDeeper("for i := 1 while |not b do");
        twoDeeper("b := not |not b");
        twoDeeper("b := not |(b)");
        twoDeeper("b := not 1 < |(2)");
        twoDeeper("b := not 1 < 2 + |(2)");
        twoDeeper("b := not h|(b)");
    }

    private void roundBrackets() {
        checker.sentence("( and [ (but of parameters and SEGMENTS' bounds)");
        oneDeeper("i := |(1)");
        oneDeeper("print|(1)");
        oneDeeper("p|(1)");
        oneDeeper("i := f|(1)");
        oneDeeper("f|(1)");
        oneDeeper("g|(1, 2)");
        twoDeeper("i := (|(1))");
        twoDeeper("print(|(1))");
        twoDeeper("p(|(1))");
        twoDeeper("g(1, |(2))");
        twoDeeper("i := f(f|(1))");
    }

    private void squareBrackets() {
        checker.sentence("( and [ (but of parameters and SEGMENTS' bounds)");
        oneDeeper("a|[1] := 2");
        oneDeeper("i := a|[1]");
        oneDeeper("i := a|[1] := 2");
        oneDeeper("goto s|[1]");
        twoDeeper("a[a|[1]] := 2");
        twoDeeper("a[|(1)] := 2");
        twoDeeper("i := a[a|[1]]");
        twoDeeper("i := a[a|[1]] := 2");
        twoDeeper("goto s[|(1)]");
        checker.fine(HEAD.replace("a[1:2]", "a[1:2, 1:2]") + Checker.times(17, "begin ") + "a[1, (2)] := 2"
            + Checker.times(18, " end"));
        checker.fault(HEAD.replace("a[1:2]", "a[1:2, 1:2]") + Checker.times(18, "begin ") + "a[1, |(2)] := 2"
            + Checker.times(19, " end"));
    }

    private void branchesAndLoops() {
        checker.sentence("and then, else, do of statements");
        oneDeeper("if b |then");
        oneDeeper("if b |then else");
        oneDeeper("if b |then i := 1 else i := 2");
        oneDeeper("for i := 1 |do");
        oneDeeper("for i := 1 step 1 until 2, 3 while b |do i := 1");
        twoDeeper("if b then |begin end");
        twoDeeper("if b then i := |(1)");
        twoDeeper("if b then print|(1) else");
        twoDeeper("if b then else |begin end");
        twoDeeper("if b then else i := |(1)");
        twoDeeper("if b then else if b |then");
        twoDeeper("if b then else for i := 1 |do");
        twoDeeper("for i := 1 do |begin end");
        twoDeeper("for i := 1 do for i := 1 |do");
        twoDeeper("for i := 1 do if b |then");
        twoDeeper("for i := 1 do a|[1] := 2");
        checker.fine(at(17, "if b then else if b then else if b then else"));
        checker.fault(at(18, "if b then else if b then else if b |then else"));
    }

    private void bracketsThatAreNotDeeper() {
        checker.sentence("(but of parameters and SEGMENTS' bounds)");
        noDeeper("integer array c[1:2];");
        noDeeper("boolean array c, d[1:2, 3:4], e[5:6];");
        oneDeeper("|procedure q(x, y, z); value x; integer x; boolean array y; label z; ;");
        oneDeeper("integer array c[|(1):2];");
        oneDeeper("integer array c[1:|(2)];");
        oneDeeper("integer array c[1:2, |(3):4];");
        oneDeeper("integer array c[1:2, 3:|if true then 4 else 5];");
        twoDeeper("integer procedure q(x); integer x; q := |(x);");
        twoDeeper("procedure q(x); value x; integer x; |begin end;");
        twoDeeper("procedure q(x, y, z); value x, y; integer x; boolean y; label z; |begin end;");
        twoDeeper("procedure q(x, y); integer array x; boolean array y; |begin end;");
    }

    private void whatElseIsNotDeeper() {
        checker.sentence("These tokens begin what is one deeper");
        noDeeper("integer c, d; own boolean e; switch t := m, l; m: n: goto m; i := c + 1 * 2 ^ 3; b := i < 2 and b or b");
        noDeeper("; ; ;");
        // The if and the for themselves, and what they ask, are not: only then and do are.
        oneDeeper("if |(b) then");
        oneDeeper("if |(b) then else");
        oneDeeper("if a|[1] < 2 then");
        oneDeeper("for i := |(1) do");
        oneDeeper("for i := 1 step |(1) until 2 do");
        oneDeeper("for i := 1 step 1 until |(2) do");
        oneDeeper("for i := 1 while |(b) do");
        oneDeeper("for i := 1, |(2) do");
    }

    private void upToItsEnd() {
        checker.sentence("begin what is one deeper, up to its end");
        checker.fine(at(19, "begin end; begin end; begin end"));
        checker.fine(at(19, "procedure q; ; procedure r; q; integer procedure t; ; begin end"));
        checker.fine(at(19, "print(1); p(2); a[1] := a[2]; a[1] := a[2] := 3; goto s[1]; print(1)"));
        checker.fine(at(19, "i := (1) + (2) * (3) ^ (4) - a[1] div a[2] - f(1) + f(2)"));
        checker.fine(at(19, "b := not b and not b or not b"));
        checker.fine(at(19, "b := not b and (b) or not b and (b)"));
        checker.fine(at(19, "b := not 1 < 2 and (b)"));
        checker.fine(at(18, "g((1), (2)); g(a[1], f(2)); i := g(i, (1))"));
        checker.fine(at(18, "g(if b then 1 else 2, (1)); g(if b then 1 else 2, if b then 3 else 4)"));
        checker.fine(at(18, "i := (if b then 1 else 2) + (if b then 3 else 4)"));
        checker.fine(at(19, "for i := if b then 1 else 2, if b then 3 else 4 step (1) until a[2] do"));
        checker.fine(at(18, "i := if (b) then (1) else (2); i := (1)"));
        checker.fine(at(18, "if b then begin end else begin end; begin begin end end"));
        checker.fine(at(19, "if b then else; if b then; for i := 1 do; for i := 2 do; begin end"));
        checker.fine(at(18, "for i := 1 do begin end; if b then print(1) else print(2); print((1))"));
        checker.fine(at(18, "procedure q; begin end; procedure r(x); integer x; begin end; print((1))"));
        checker.fine(at(19, "integer array c[(1):(2), (3):(4)], d[(5):(6)]; print(1)"));
    }

    private void deepestOfEachKind() {
        checker.sentence("at most 20 deep (the token itself is what is too deep)");
        deepest("begin ", Checker.times(19, "begin "), "begin ", Checker.times(20, " end"));
        deepest("begin print(", Checker.times(18, "("), "(", "1" + Checker.times(19, ")") + " end");
        deepest("begin boolean b; b := ", Checker.times(19, "not "), "not ", "b end");
        deepest("begin print(", Checker.times(18, "if true then 1 else "), "if true then 1 else ", "2) end");
        deepest("begin integer i; ", Checker.times(19, "for i := 1 do "), "for i := 1 |do ", " end");
        deepest("begin ", Checker.times(19, "if true then else "), "if true |then else ", " end");
        deepest("begin integer array a[1:2]; a[1] := ", Checker.times(19, "a["), "a|[", "1" + Checker.times(19, "]") + " end");
        checker.fine(Checker.times(10, "begin procedure p; ") + Checker.times(10, "; end "));
        checker.fault(Checker.times(10, "begin procedure p; ") + "|begin " + Checker.times(10, "; end "));
        checker.fault("begin " + Checker.times(19, "begin ") + "|procedure p; ; " + Checker.times(20, " end"));
    }

    /** Twenty deep with the start; one more is too deep, even if much more comes behind it. */
    private void deepest(String start, String deep, String deeper, String close) {
        checker.fine(start + deep + close);
        String marked = deeper.indexOf('|') < 0 ? "|" + deeper : deeper;
        checker.fault(start + deep + marked + close);
        checker.fault(start + deep + marked + Checker.times(100, deeper.replace("|", "")));
    }

    private void tooDeepComesWhereItStands() {
        checker.sentence("the place of the first token that can not stand there (too deep or too many: its own");
        checker.fault(at(20, "x := 1; |begin end; ?"));
        checker.fault(at(20, "x := |? begin end"));
        checker.fault(at(20, "print|( ?"));
        checker.fault(at(20, "i := 1 |1; begin end"));
        checker.fault(at(20, "i |i begin end"));
        checker.fault(at(20, "i := i |not b"));
        // A meaning that is wrong further in front does not count, as the grammar comes first.
        checker.fault(at(20, "y := z; x := 2; |begin end"));
    }

    private void theNextTextBeginsAtTheTop() {
        checker.sentence("at most 20 deep (the token itself is what is too deep)");
        AlgolJudge judge = new AlgolJudge();
        String deepest = Checker.times(20, "begin ") + Checker.times(20, "end ");
        String[] broken = {Checker.times(20, "begin "), Checker.times(20, "begin ") + "begin", "begin print((((",
            "begin if true then else for i := 1 do", "begin x := not not not", "begin procedure p; begin", "begin a[a[a["};
        for (String text : broken) {
            Checker.judge(judge, text);
            checker.due("judge() behind " + text, Checker.judge(judge, deepest), AlgolJudge.NONE);
            Checker.judge(judge, text);
            checker.due("judge() of 21 behind " + text, Checker.judge(judge, Checker.times(21, "begin ")), 120);
        }
    }
}

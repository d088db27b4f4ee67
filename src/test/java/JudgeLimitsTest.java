/** Promise 4, judge: how deep and how many. */
public final class JudgeLimitsTest {
    public static void main(String[] args) {
        Checker checker = new Checker();
        begins(checker);
        bracketsInExpressions(checker);
        conditionalsAndDenials(checker);
        statements(checker);
        procedures(checker);
        whatIsNotDeeper(checker);
        whatEndsAgain(checker);
        parameters(checker);
        switchNames(checker);
        variables(checker);
        manyLabelsAndBlocks(checker);
        checker.finish();
    }

    private static void begins(Checker checker) {
        checker.fine(Checker.times(20, "begin ") + Checker.times(20, "end "));
        checker.fault(Checker.times(20, "begin ") + "|begin " + Checker.times(21, "end "));
        checker.fault(Checker.times(20, "begin ") + "|begin " + Checker.times(400, "begin "));
    }

    private static void bracketsInExpressions(Checker checker) {
        // begin and print's ( are the first two.
        checker.fine("begin print(" + Checker.times(18, "(") + "1" + Checker.times(18, ")") + ") end");
        checker.fault("begin print(" + Checker.times(18, "(") + "|(1" + Checker.times(19, ")") + ") end");
        checker.fault("begin print(" + Checker.times(18, "(") + "|(" + Checker.times(2000, "(") + "1) end");
        String array = "begin integer array a[1:2]; ";
        checker.fine(array + Checker.times(19, "a[") + "1" + Checker.times(19, "]") + " := 1 end");
        checker.fault(array + Checker.times(19, "a[") + "a|[1" + Checker.times(20, "]") + " := 1 end");
        checker.fine(array + "a[1] := " + Checker.times(19, "a[") + "1" + Checker.times(19, "]") + " end");
        checker.fault(array + "a[1] := " + Checker.times(19, "a[") + "a|[1" + Checker.times(20, "]") + " end");
        checker.fine(array + "a[1] := " + Checker.times(19, "a[") + "1" + Checker.times(19, "]") + " := 1 end");
        checker.fault(array + "a[1] := " + Checker.times(19, "a[") + "a|[1" + Checker.times(20, "]") + " := 1 end");
        String function = "begin integer procedure f(x); integer x; f := x; ";
        checker.fine(function + "print(" + Checker.times(18, "f(") + "1" + Checker.times(18, ")") + ") end");
        checker.fault(function + "print(" + Checker.times(18, "f(") + "f|(1" + Checker.times(19, ")") + ") end");
        checker.fine(function + Checker.times(19, "f(") + "1" + Checker.times(19, ")") + " end");
        checker.fault(function + Checker.times(19, "f(") + "f|(1" + Checker.times(20, ")") + " end");
        String table = "begin switch s := l; l: goto s[";
        checker.fine(table + Checker.times(18, "(") + "1" + Checker.times(18, ")") + "] end");
        checker.fault(table + Checker.times(18, "(") + "|(1" + Checker.times(19, ")") + "] end");
        checker.fault(Checker.times(20, "begin ") + "print|(1) " + Checker.times(20, "end "));
        checker.fault(Checker.times(20, "begin ") + "p|(1) " + Checker.times(20, "end "));
        checker.fault(Checker.times(20, "begin ") + "goto s|[1] " + Checker.times(20, "end "));
        checker.fault(Checker.times(20, "begin ") + "a|[1] := 2 " + Checker.times(20, "end "));
    }

    private static void conditionalsAndDenials(Checker checker) {
        checker.fine("begin print(" + Checker.times(18, "if true then 1 else ") + "2) end");
        checker.fault("begin print(" + Checker.times(18, "if true then 1 else ") + "|if true then 1 else 2) end");
        checker.fine("begin print(" + Checker.times(18, "if ") + "true" + Checker.times(17, " then true else false")
            + " then 1 else 2) end");
        checker.fault("begin print(" + Checker.times(18, "if ") + "|if true then true else false) end");
        checker.fine("begin boolean b; b := " + Checker.times(19, "not ") + "b end");
        checker.fault("begin boolean b; b := " + Checker.times(19, "not ") + "|not b end");
        checker.fine("begin boolean b; b := " + Checker.times(19, "not ") + "b or " + Checker.times(19, "not ")
            + "b and " + Checker.times(19, "not ") + "b end");
        checker.fine("begin boolean b; b := " + Checker.times(18, "not ") + "(b) end");
        checker.fault("begin boolean b; b := " + Checker.times(19, "not ") + "|(b) end");
        // The if is over only when its last branch is.
        checker.fault("begin print(if true then 1 else " + Checker.times(17, "(") + "|(1) end");
        checker.fine("begin print(if true then 1 else " + Checker.times(17, "(") + "1" + Checker.times(17, ")")
            + ") end");
    }

    private static void statements(Checker checker) {
        checker.fine("begin integer i; " + Checker.times(19, "for i := 1 do ") + "end");
        checker.fault("begin integer i; " + Checker.times(19, "for i := 1 do ") + "for i := 1 |do end");
        checker.fine("begin " + Checker.times(19, "if true then else ") + "end");
        checker.fault("begin " + Checker.times(19, "if true then else ") + "if true |then else end");
        checker.fine("begin " + Checker.times(18, "if true then else ") + "if true then end");
        checker.fault("begin " + Checker.times(18, "if true then else ") + "if true then |begin end end");
        checker.fault("begin " + Checker.times(18, "if true then else ") + "if true then print|(1) end");
        checker.fault(Checker.times(20, "begin ") + "if true |then " + Checker.times(20, "end "));
        checker.fault(Checker.times(20, "begin ") + "for i := 1 |do " + Checker.times(20, "end "));
        checker.fine(Checker.times(19, "begin ") + "if true then else " + Checker.times(19, "end "));
    }

    private static void procedures(Checker checker) {
        checker.fine(Checker.times(10, "begin procedure p; ") + Checker.times(10, "; end "));
        checker.fault(Checker.times(10, "begin procedure p; ") + "|begin " + Checker.times(10, "; end "));
        checker.fault(Checker.times(20, "begin ") + "|procedure p; ; " + Checker.times(20, "end "));
        checker.fault(Checker.times(20, "begin ") + "integer |procedure p; ; " + Checker.times(20, "end "));
        checker.fine(Checker.times(19, "begin ") + "procedure p; ; procedure q; p; " + Checker.times(19, "end "));
        checker.fault(Checker.times(19, "begin ") + "procedure p; |begin end; " + Checker.times(19, "end "));
    }

    private static void whatIsNotDeeper(Checker checker) {
        checker.fine(Checker.times(19, "begin ") + "procedure p(a); integer a; ; " + Checker.times(19, "end "));
        checker.fine(Checker.times(20, "begin ") + "integer array a[1:2]; " + Checker.times(20, "end "));
        checker.fault(Checker.times(20, "begin ") + "integer array a[1:|(2)]; " + Checker.times(20, "end "));
        checker.fine(Checker.times(20, "begin ") + "switch s := l; l: goto l "
            + Checker.times(20, "end "));
        checker.fine("begin integer array a[" + Checker.times(19, "(") + "1" + Checker.times(19, ")") + ":2]; end");
        checker.fault("begin integer array a[" + Checker.times(19, "(") + "|(1" + Checker.times(20, ")") + ":2]; end");
    }

    private static void whatEndsAgain(Checker checker) {
        checker.fine("begin " + Checker.times(100, "print(((1)));") + Checker.times(100, "begin end;") + " end");
        checker.fine("begin " + Checker.times(60, "if true then print(1) else print(2);") + " end");
        checker.fine("begin integer i; " + Checker.times(60, "for i := 1 do print(i);") + " end");
        checker.fine("begin integer array a[1:2]; " + Checker.times(60, "a[a[1]] := a[a[2]];") + " end");
        checker.fine("begin print(1" + Checker.times(60, "+ (if true then 1 else 2)") + ") end");
        checker.fine("begin boolean b; b := b" + Checker.times(100, " and not b or not b") + " end");
        checker.fine("begin procedure p(a); integer a; ; " + Checker.times(100, "p(1);") + " end");
        checker.fine("begin procedure p; begin end; procedure q; begin end; procedure r; begin end; end");
        checker.fine("begin switch s := l; l: " + Checker.times(100, "goto s[1];") + " end");
    }

    private static void parameters(Checker checker) {
        checker.fine("begin procedure p(" + Checker.names("a", 6) + "); integer " + Checker.names("a", 6) + "; ; end");
        checker.fault("begin procedure p(" + Checker.names("a", 6) + ", |a7); integer " + Checker.names("a", 7)
            + "; ; end");
        checker.fault("begin procedure p(a,a,a,a,a,a,|a); ; end");
        checker.fault("begin procedure p(a,b,c,d,e,f,|); ; end");
        // ACTUALS are as many as one likes for the grammar.
        checker.fault("begin procedure p; ; |p(1,2,3,4,5,6,7,8,9) end");
        checker.fault("begin procedure p; ; p(1,2,3,4,5,6,7,8,9,|) end");
    }

    private static void switchNames(Checker checker) {
        checker.fine("begin switch s := l" + Checker.times(19, ",l") + "; l: end");
        checker.fault("begin switch s := l" + Checker.times(19, ",l") + ",|l; l: end");
        checker.fault("begin switch s := l" + Checker.times(19, ",l") + ",|; l: end");
        checker.fine("begin switch s := l" + Checker.times(19, ",l") + "; switch t := l" + Checker.times(19, ",l")
            + "; l: end");
    }

    private static void variables(Checker checker) {
        checker.fine("begin integer " + Checker.names("a", 60) + "; end");
        checker.fault("begin integer " + Checker.names("a", 60) + ", |b; end");
        checker.fault("begin integer " + Checker.names("a", 60) + "; boolean |b; end");
        checker.fault("begin integer " + Checker.names("a", 60) + "; own integer |b; end");
        checker.fault("begin own integer " + Checker.names("a", 60) + "; integer array |b[1:2]; end");
        checker.fine("begin integer array " + Checker.names("a", 60) + "[1:2]; end");
        checker.fault("begin integer array " + Checker.names("a", 59) + "[1:2], b[1:2], |c[1:2]; end");
        checker.fault("begin integer " + Checker.names("a", 60) + "; integer array |b[1:2]; end");
        // Those of all BEGINs of a procedure or the program count together, also of those that have ended.
        checker.fault("begin integer " + Checker.names("a", 30) + "; begin integer " + Checker.names("b", 30)
            + " ; end; begin integer |c; end end");
        checker.fine("begin integer " + Checker.names("a", 30) + "; begin integer " + Checker.names("b", 30)
            + " ; end; begin end end");
        // Those of procedures in it do not.
        checker.fine("begin integer " + Checker.names("a", 59) + "; procedure p; begin integer "
            + Checker.names("b", 60) + "; end; integer c; end");
        checker.fault("begin integer " + Checker.names("a", 59) + "; procedure p; begin integer "
            + Checker.names("b", 60) + "; end; integer c, |d; end");
        checker.fault("begin procedure p; begin integer " + Checker.names("b", 60) + "; begin own boolean |c; end"
            + " end; integer d; end");
        checker.fine("begin procedure p; begin procedure q; begin integer " + Checker.names("a", 60)
            + "; end; integer " + Checker.names("b", 60) + "; end; integer " + Checker.names("c", 60) + "; end");
        // Other names do not count.
        checker.fine("begin procedure p(x, y); integer x, y; begin integer " + Checker.names("a", 60)
            + "; procedure q; ; switch s := l; l: end; end");
    }

    private static void manyLabelsAndBlocks(Checker checker) {
        checker.fault("begin a:|" + Checker.times(1490, "a:") + "end");
        checker.fine("begin " + Checker.times(299, "begin end;") + "end");
        checker.fine(Checker.times(19, "begin ") + Checker.times(280, "begin end;") + Checker.times(19, "end "));
        StringBuilder labels = new StringBuilder("begin ");
        for (int i = 0; i < 600; i++) {
            labels.append((char) ('a' + i / 260)).append(i % 260).append(i < 599 ? ":" : ": end");
        }
        checker.due("names() of 600 labels", checker.judged(labels.toString()).names(), 600);
    }
}

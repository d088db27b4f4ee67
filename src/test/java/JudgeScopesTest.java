/** Promise 4, judge: what is declared where, what names mean, and what can not stand there. */
public final class JudgeScopesTest {
    public static void main(String[] args) {
        Checker checker = new Checker();
        namesStandOnce(checker);
        innermostIsMeant(checker);
        boundsLookOutside(checker);
        labelsAreSeenInTheirBegin(checker);
        procedureScopes(checker);
        jumps(checker);
        switches(checker);
        lefts(checker);
        resultNames(checker);
        statementCalls(checker);
        forNames(checker);
        valuesInExpressions(checker);
        firstWrongPlaceCounts(checker);
        checker.finish();
    }

    private static void namesStandOnce(Checker checker) {
        checker.fault("begin integer a, |a; end");
        checker.fault("begin integer a; boolean |a; end");
        checker.fault("begin integer a; integer array |a[1:2]; end");
        checker.fault("begin integer a; procedure |a; ; end");
        checker.fault("begin integer a; switch |a := l; l: end");
        checker.fault("begin integer a; |a: end");
        checker.fault("begin procedure a; ; own integer |a; end");
        checker.fault("begin a: |a: end");
        checker.fault("begin a: print(1); b: print(2); |a: end");
        checker.fault("begin integer array a, |a[1:2]; end");
        checker.fault("begin integer a, |a, a, a; end");
        checker.fine("begin integer a; begin integer a; b: end; begin integer a; end end");
        checker.fine("begin a: begin a: begin a: end end end");
        checker.fine("begin integer a; procedure p(a); integer a; begin integer a; a := 1 end; a := 2 end");
        checker.fine("begin procedure p; begin integer p; p := 1 end; p end");
        checker.fine("begin integer procedure p(p); integer p; p := 1; end");
        checker.fault("begin procedure p(a, |a); integer a; ; end");
        checker.fault("begin procedure p(a, b, c, |b); integer a, b, c; ; end");
    }

    private static void innermostIsMeant(Checker checker) {
        checker.fault("begin |x := 1 end");
        checker.fault("begin begin integer x; end; |x := 1 end");
        checker.fine("begin integer x; begin begin x := 1 end end end");
        checker.fault("begin integer x; begin boolean x; x := |1 end end");
        checker.fine("begin integer x; begin boolean x; x := true end; x := 1 end");
        checker.fault("begin integer x; begin boolean x; x := true end; x := |true end");
        checker.fault("begin integer x; begin x: |x := 1 end end");
        checker.fine("begin procedure p; q; procedure q; p; p end");
        checker.fine("begin procedure p; x := 1; integer x; p end");
        checker.fault("begin procedure p; begin integer x; end; |x := 1 end");
    }

    private static void boundsLookOutside(Checker checker) {
        checker.fault("begin integer n; integer array a[1:|n]; end");
        checker.fine("begin integer n; n := 3; begin integer array a[1:n]; end end");
        checker.fine("begin integer n; begin boolean n; integer array a[n:n]; end end");
        checker.fault("begin boolean n; begin integer n; integer array a[|n:1]; end end");
        checker.fault("begin begin integer n; integer array a[1:|n]; end end");
        checker.fault("begin integer procedure f; f := 1; integer array a[1:|f]; end");
        checker.fault("begin integer array a[1:|a[1]]; end");
        checker.fine("begin integer array a[1:2]; begin integer array a[a[1]:a[2]]; a[1] := 1 end end");
        checker.fine("begin procedure p(n); integer n; begin integer array a[1:n]; end; end");
        checker.fine("begin procedure p(n); integer n; begin integer n; integer array a[1:n]; end; end");
        checker.fault("begin procedure p(n); boolean n; begin integer n; integer array a[1:|n]; end; end");
        checker.fine("begin integer n; begin integer array a[1:n], b[n:n, n:n]; integer i; i := a[1] + b[1, 2] end end");
        checker.fault("begin integer array a[1:2]; begin integer array b[1:a[1], 1:|b]; end end");
        // In a procedure that is declared beside the array, its BEGIN is seen again.
        checker.fine("begin boolean n; begin integer array a[1:2]; procedure p; begin integer array b[1:n]; end;"
            + " integer n; end end");
        checker.fine("begin integer n; begin integer array a[1:n]; n: goto n end end");
    }

    private static void labelsAreSeenInTheirBegin(Checker checker) {
        checker.fine("begin goto l; l: end");
        checker.fine("begin begin goto l end; l: end");
        checker.fine("begin procedure p; goto l; p; l: end");
        checker.fault("begin goto |l; begin l: end end");
        checker.fault("begin begin l: end; goto |l end");
        checker.fault("begin switch s := |l; begin l: end end");
        checker.fine("begin switch s := l; begin l: goto s[1] end; l: end");
    }

    private static void procedureScopes(Checker checker) {
        checker.fault("begin procedure p(a); integer a; ; |a := 1 end");
        checker.fine("begin procedure p(a); integer a; begin procedure q; a := 1; q end; p(1) end");
        checker.fine("begin procedure p(p); integer p; p := 1; p(1) end");
        checker.fault("begin procedure p(p); integer p; |p(1); p(1) end");
        checker.fine("begin integer a; procedure p(a); label a; goto a; l: p(l) end");
        checker.fault("begin integer a; procedure p(a); label a; |a := 1; end");
    }

    private static void jumps(Checker checker) {
        checker.fault("begin integer i; goto |i end");
        checker.fault("begin integer array a[1:2]; goto |a end");
        checker.fault("begin procedure p; ; goto |p end");
        checker.fault("begin switch s := l; l: goto |s end");
        checker.fault("begin l: goto |l[1] end");
        checker.fault("begin integer array a[1:2]; goto |a[1] end");
        checker.fault("begin goto |s[1] end");
        checker.fault("begin switch s := l; l: goto s[|true] end");
        checker.fine("begin procedure p(m); label m; goto m; l: p(l) end");
        checker.fault("begin procedure p(m); integer m; goto |m; end");
        checker.fault("begin procedure p(m); label m; goto |m[1]; end");
        checker.fault("begin procedure p(m); integer array m; goto |m[1]; end");
        checker.fault("begin goto |s[true] end");
    }

    private static void switches(Checker checker) {
        checker.fault("begin switch s := |l; end");
        checker.fault("begin integer i; switch s := |i; end");
        checker.fault("begin switch s := |s; end");
        checker.fault("begin switch s := l; switch t := |s; l: end");
        checker.fault("begin procedure p; ; switch s := |p; end");
        checker.fine("begin procedure p(m); label m; begin switch s := m, l; goto s[1]; l: end; end");
        checker.fault("begin procedure p(m); integer m; begin switch s := l, |m; l: end; end");
        checker.fine("begin switch s := l; l: begin switch t := l; l: end end");
    }

    private static void lefts(Checker checker) {
        checker.fault("begin integer array a[1:2]; |a := 1 end");
        checker.fault("begin integer a; |a[1] := 1 end");
        checker.fault("begin l: |l := 1 end");
        checker.fault("begin switch s := l; l: |s := 1 end");
        checker.fault("begin switch s := l; l: |s[1] := 1 end");
        checker.fault("begin procedure p; ; |p := 1 end");
        checker.fault("begin procedure p; |p := 1; end");
        checker.fault("begin integer i; i := |p := 1 end");
        checker.fault("begin integer i; i := |i[1] := 1 end");
        checker.fine("begin procedure p(a, b, c); integer a; boolean b; integer array c; begin a := 1; b := true;"
            + " c[1] := 2; c[1, 2] := 3 end; end");
        checker.fault("begin procedure p(c); integer array c; |c := 3; end");
        checker.fault("begin procedure p(c); label c; |c := 3; end");
        checker.fault("begin procedure p(c); integer c; |c[1] := 3; end");
        checker.fine("begin own integer i; i := 1 end");
    }

    private static void resultNames(Checker checker) {
        checker.fine("begin integer procedure f; f := 1; f end");
        checker.fault("begin integer procedure f; f := 1; |f := 2 end");
        checker.fault("begin integer procedure f; f := |true; end");
        checker.fine("begin boolean procedure f; begin f := true; begin f := false end end; end");
        checker.fine("begin integer procedure f; begin procedure g; f := 1; g end; end");
        checker.fine("begin integer procedure f(x); integer x; f := x; end");
        checker.fault("begin integer procedure f; f := 1; integer procedure g; |f := 1; end");
        checker.fault("begin integer procedure f; begin integer procedure g; g := 1; |g := 2 end; end");
        checker.fault("begin integer procedure f; begin integer procedure g; f := g := 1; f := |g := 2 end; end");
        checker.fault("begin integer procedure f; |f[1] := 1; end");
        checker.fault("begin integer procedure f; begin |label f; end; end");
        checker.fault("begin integer procedure f; begin switch f := l; l: |f := 1 end; end");
        checker.fault("begin integer procedure f; for |f := 1 do; end");
    }

    private static void statementCalls(Checker checker) {
        checker.fine("begin procedure p; ; integer procedure f; f := 1; boolean procedure g; ; p; f; g end");
        checker.fault("begin |p end");
        checker.fault("begin integer i; |i end");
        checker.fault("begin integer i; |i(1) end");
        checker.fault("begin integer array a[1:2]; |a end");
        checker.fault("begin l: |l end");
        checker.fault("begin switch s := l; l: |s end");
        checker.fault("begin procedure p(a); integer a; |a; end");
        checker.fault("begin procedure p(a); label a; |a; end");
    }

    private static void forNames(Checker checker) {
        checker.fine("begin integer i; for i := 1 do end");
        checker.fine("begin own integer i; for i := 1 do end");
        checker.fine("begin procedure p(i); integer i; for i := 1 do; end");
        checker.fine("begin procedure p(i); value i; integer i; for i := 1 do; end");
        checker.fault("begin for |i := 1 do end");
        checker.fault("begin boolean i; for |i := 1 do end");
        checker.fault("begin procedure p(i); boolean i; for |i := 1 do; end");
        checker.fault("begin procedure p(i); integer array i; for |i := 1 do; end");
        checker.fault("begin procedure p(i); label i; for |i := 1 do; end");
        checker.fault("begin integer array a[1:2]; for |a := 1 do end");
        checker.fault("begin l: for |l := 1 do end");
        checker.fault("begin integer procedure f; ; for |f := 1 do end");
    }

    private static void valuesInExpressions(Checker checker) {
        checker.fine("begin integer i; integer array a[1:2], b[1:2, 1:2]; integer procedure f; f := 1;"
            + " integer procedure g(x); integer x; g := x; print(i + a[i] + b[i, i] + f + g(i)) end");
        checker.fault("begin print(|x) end");
        checker.fault("begin print(|x[1]) end");
        checker.fault("begin print(|x(1)) end");
        checker.fault("begin integer array a[1:2]; print(|a) end");
        checker.fault("begin integer array a[1:2]; print(|a(1)) end");
        checker.fault("begin integer i; print(|i[1]) end");
        checker.fault("begin integer i; print(|i(1)) end");
        checker.fault("begin l: print(|l) end");
        checker.fault("begin l: print(|l[1]) end");
        checker.fault("begin switch s := l; l: print(|s) end");
        checker.fault("begin switch s := l; l: print(|s[1]) end");
        checker.fault("begin procedure p; ; print(|p) end");
        checker.fault("begin procedure p(a); integer a; ; print(|p(1)) end");
        checker.fault("begin integer procedure f; f := 1; print(|f[1]) end");
        checker.fault("begin procedure p(a); integer array a; print(|a); end");
        checker.fault("begin procedure p(a); label a; print(|a); end");
        checker.fault("begin procedure p(a); integer a; print(|a[1]); end");
        checker.fault("begin procedure p(a); integer a; print(|a(1)); end");
        checker.fine("begin procedure p(a); integer array a; print(a[1] + a[1, 2]); end");
        checker.fault("begin integer array a[1:2]; print(|a[1, 2]) end");
        checker.fault("begin integer array a[1:2, 1:2]; print(|a[1]) end");
        checker.fault("begin integer array a[1:2, 1:2]; |a[1] := 1 end");
        checker.fault("begin integer array a[1:2], b[1:2, 1:2], c[1:2]; c[1] := a[1] := b[1, 1]; |c[1, 2] := 1 end");
        checker.fault("begin integer array a, b[1:2, 1:2]; a[1, 1] := 1; |b[1] := 1 end");
    }

    private static void firstWrongPlaceCounts(Checker checker) {
        checker.fault("begin integer i; i := |true; x := 1; i := true end");
        checker.fault("begin integer i; |x := true; i := true end");
        checker.fault("begin integer i; i := 1; |x := y end");
        checker.fault("begin integer i, |i; x := 1; j: j: end");
        checker.fault("begin |x := 1; l: l: end");
        checker.fault("begin procedure p(|a); x := 1; end");
        checker.fault("begin print(|x[y]) end");
        checker.fault("begin integer array a[1:2]; print(|a[x, y]) end");
        checker.fault("begin integer array a[1:2]; print(a[|x]) end");
        checker.fault("begin procedure q; |y := 1; procedure p(a); integer b; ; end");
        // The blame of a name comes behind that of what stands in its brackets, but its place before.
        checker.fault("begin integer procedure f; f := 1; print(|f(x, y)) end");
    }
}

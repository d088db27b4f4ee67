/** Promise 4, judge: the grammar, and the first token that can not stand where it does. */
public final class JudgeGrammarTest {
    public static void main(String[] args) {
        Checker checker = new Checker();
        programs(checker);
        variablesAndArrays(checker);
        procedures(checker);
        switches(checker);
        labels(checker);
        assignments(checker);
        callsAndJumps(checker);
        choices(checker);
        loops(checker);
        prints(checker);
        expressions(checker);
        grammarComesBeforeMeaning(checker);
        checker.finish();
    }

    private static void programs(Checker checker) {
        checker.fine("begin end");
        checker.fine("begin ; end");
        checker.fine("begin ;;; end");
        checker.fine("begin begin end; begin ; begin end end end");
        checker.fine("begin begin integer i; i := 1 end; begin boolean i; i := true end end");
        checker.fault("|end");
        checker.fault("|x := 1");
        checker.fault("|; begin end");
        checker.fault("|integer i; begin end");
        checker.fault("begin|");
        checker.fault("begin begin end|");
        checker.fault("begin end |end");
        checker.fault("begin end |;");
        checker.fault("begin end |begin end");
        checker.fault("begin begin end |begin end end");
        checker.fault("begin |) end");
        checker.fault("begin print(1); |integer i; end");
        checker.fault("begin ; |integer i; end");
        checker.fault("begin integer i; ; |integer j; end");
        checker.fault("begin l: |integer i; end");
        checker.fault("begin |then end");
        checker.fault("begin |else end");
        checker.fault("begin |do end");
        checker.fault("begin |step end");
        checker.fault("begin |value end");
        checker.fault("begin |label l; end");
        checker.fault("begin |array a[1:2]; end");
        checker.fault("begin |1 end");
        checker.fault("begin |true end");
        checker.fault("begin |(1) end");
        checker.fault("begin |not end");
    }

    private static void variablesAndArrays(Checker checker) {
        checker.fine("begin integer i, j; boolean b; own integer k; own boolean c, d; end");
        checker.fine("begin integer array a, b[1:2], c[0:1, 2:3]; boolean array d[1:1]; end");
        checker.fault("begin integer i|");
        checker.fault("begin integer i |end");
        checker.fault("begin integer|; end");
        checker.fault("begin integer i,|; end");
        checker.fault("begin integer i |j; end");
        checker.fault("begin integer |boolean i; end");
        checker.fault("begin integer i |:= 1; end");
        checker.fault("begin own |i; end");
        checker.fault("begin own |own integer i; end");
        checker.fault("begin own integer |array a[1:2]; end");
        checker.fault("begin own |array a[1:2]; end");
        checker.fault("begin own integer |procedure p; ; end");
        checker.fault("begin own |procedure p; ; end");
        checker.fault("begin own |switch s := l; l: end");
        checker.fault("begin integer |own i; end");
        checker.fault("begin integer |switch s := l; l: end");
        checker.fault("begin integer array a|; end");
        checker.fault("begin integer array |[1:2]; end");
        checker.fault("begin integer array a[|]; end");
        checker.fault("begin integer array a[1|]; end");
        checker.fault("begin integer array a[1|, 2]; end");
        checker.fault("begin integer array a[1:2|:3]; end");
        checker.fault("begin integer array a[1:2, 3|]; end");
        checker.fault("begin integer array a[1:2, 3:4|, 5:6]; end");
        checker.fault("begin integer array a[1:2|; end");
        checker.fault("begin integer array a[1:2] |b[1:2]; end");
        checker.fault("begin integer array a[1:2],|; end");
        checker.fault("begin integer array a[1:2], b|; end");
        checker.fault("begin integer array a|(1:2); end");
        checker.fault("begin integer array a[|:2]; end");
    }

    private static void procedures(Checker checker) {
        checker.fine("begin procedure p; ; end");
        checker.fine("begin procedure p; begin end; integer procedure f; f := 1; boolean procedure g; ; end");
        checker.fine("begin procedure p(a); integer a; ; p(1) end");
        checker.fine("begin procedure p(a, b, c); value a; integer a; boolean array b; label c; ; end");
        checker.fine("begin procedure p(a, b); value a, b; integer a; boolean b; ; integer i; end");
        checker.fine("begin procedure p; if true then print(1) else print(2); p end");
        checker.fine("begin integer i; procedure p; for i := 1 do print(i); p end");
        checker.fault("begin procedure p|");
        checker.fault("begin procedure p; |end");
        checker.fault("begin procedure|; ; end");
        checker.fault("begin procedure p|, q; ; end");
        checker.fault("begin procedure p |begin end; end");
        checker.fault("begin procedure p(|); ; end");
        checker.fault("begin procedure p(a|; ; end");
        checker.fault("begin procedure p(a,|); ; end");
        checker.fault("begin procedure p(a|[1]); ; end");
        checker.fault("begin procedure p(|1); ; end");
        checker.fault("begin procedure p(|integer a); ; end");
        checker.fault("begin procedure p(a) |integer a; ; end");
        checker.fault("begin procedure p; |value a; ; end");
        checker.fault("begin procedure p; |integer a; ; end");
        checker.fault("begin procedure p; |label a; ; end");
        checker.fault("begin procedure p(a); integer a; |value a; ; end");
        checker.fault("begin procedure p(a); value a; |value a; ; end");
        checker.fault("begin procedure p(a); value|; integer a; ; end");
        checker.fault("begin procedure p(a); value a |integer a; ; end");
        checker.fault("begin procedure p(a); |array a; ; end");
        checker.fault("begin procedure p(a); |own integer a; ; end");
        checker.fault("begin procedure p(a); |switch a; ; end");
        checker.fault("begin procedure p(a); |procedure a; ; end");
        checker.fault("begin procedure p(a); integer |procedure a; ; end");
        checker.fault("begin procedure p(a); integer array a|[1:2]; ; end");
        checker.fault("begin procedure p(a); label |array a; ; end");
        checker.fault("begin procedure p(a); integer|; ; end");
        checker.fault("begin procedure p(a); integer a |begin end; end");
        checker.fault("begin procedure p; l|: print(1); end");
        checker.fault("begin procedure p; |integer");
        checker.fault("begin procedure p; begin end |end");
        checker.fault("begin integer procedure f; f := 1 |end");
        checker.fault("begin integer |value f; end");
    }

    private static void switches(Checker checker) {
        checker.fine("begin switch s := l; l: end");
        checker.fine("begin switch s := l, m, l; l: m: goto s[1] end");
        checker.fault("begin switch|; l: end");
        checker.fault("begin switch s|; l: end");
        checker.fault("begin switch s |= l; l: end");
        checker.fault("begin switch s :=|; l: end");
        checker.fault("begin switch s := l,|; l: end");
        checker.fault("begin switch s := |1; l: end");
        checker.fault("begin switch s := l|[1]; l: end");
        checker.fault("begin switch s := l |l: end");
        checker.fault("begin switch s|, t := l; l: end");
    }

    private static void labels(Checker checker) {
        checker.fine("begin l: end");
        checker.fine("begin l: m: print(1); n: begin l: end; o: end");
        checker.fine("begin l: if true then begin m: end end");
        checker.fault("begin if true then l|: end");
        checker.fault("begin if true then print(1) else l|: end");
        checker.fault("begin integer i; for i := 1 do l|: end");
        checker.fault("begin |: end");
        checker.fault("begin |1: end");
        checker.fault("begin l|, m: end");
        checker.fault("begin l:|: end");
    }

    private static void assignments(Checker checker) {
        checker.fine("begin integer i, j; integer array a[1:2], b[1:2, 1:2]; i := 1; i := j := 2; a[1] := 3;"
            + " a[i] := b[1, 2] := i := a[a[1]] := 4; i := a[1]; i := a[1] + 1; i := b[1, a[1]] end");
        checker.fault("begin integer i; i := |end");
        checker.fault("begin integer i; i := 1 |:= 2 end");
        checker.fault("begin integer i; i := i + i |:= 2 end");
        checker.fault("begin integer i; i := (i) |:= 2 end");
        checker.fault("begin integer i; |(i) := 2 end");
        checker.fault("begin integer i; i := + i |:= 2 end");
        checker.fault("begin integer i; i := if true then i else i |:= 2 end");
        checker.fault("begin integer array a[1:2]; a[1] |end");
        checker.fault("begin integer array a[1:2]; a[1]|; end");
        checker.fault("begin integer array a[1:2]; a[1] |= 2 end");
        checker.fault("begin integer array a[1:2]; a[1]|(2) end");
        checker.fault("begin integer array a[1:2]; a[1]|[2] := 1 end");
        checker.fault("begin integer array a[1:2]; a[|] := 1 end");
        checker.fault("begin integer array a[1:2]; a[1,|] := 1 end");
        checker.fault("begin integer array a[1:2]; a[1, 2|, 3] := 1 end");
        checker.fault("begin integer array a[1:2]; a[1 |:= 1 end");
        checker.fault("begin integer array a[1:2]; a[1|) := 1 end");
        checker.fault("begin integer array a[1:2]; a[1|:2] := 1 end");
        checker.fault("begin integer i; integer array a[1:2]; i := a[1|:2] := 1 end");
        checker.fault("begin integer i; integer array a[1:2]; i := a[1|; i] := 1 end");
        checker.fault("begin integer i; integer array a[1:2]; i := a[1|");
        checker.fault("begin integer i; integer array a[1:2]; i := a[1] |] := 1 end");
        checker.fault("begin integer i; integer array a[1:2]; i := a[1]|[2] := 1 end");
        checker.fault("begin integer i; i := f(1) |:= 2 end");
        checker.fault("begin integer i; i := i := |:= 2 end");
        checker.fault("begin integer i; i: |= 2 end");
    }

    private static void callsAndJumps(Checker checker) {
        checker.fine("begin procedure p; ; procedure q(a, b); integer a, b; ; p; q(1, 2 + 3) end");
        checker.fine("begin switch s := l, m; l: goto m; m: goto s[1 + 1]; goto l end");
        checker.fault("begin procedure p; ; p(|) end");
        checker.fault("begin procedure p; ; p(1|; end");
        checker.fault("begin procedure p; ; p(1,|) end");
        checker.fault("begin procedure p; ; p(1 |2) end");
        checker.fault("begin procedure p; ; p(1) |(2) end");
        checker.fault("begin procedure p; ; p |p end");
        checker.fault("begin procedure p; ; p |+ 1 end");
        checker.fault("begin procedure p; ; p(1) |+ 1 end");
        checker.fault("begin procedure p; ; p(1) |:= 1 end");
        checker.fault("begin procedure p; ; p(1|; 2) end");
        checker.fault("begin goto |end");
        checker.fault("begin goto |1 end");
        checker.fault("begin goto|; l: end");
        checker.fault("begin goto |(l); l: end");
        checker.fault("begin goto l|(1); l: end");
        checker.fault("begin goto l[1|, 2]; l: end");
        checker.fault("begin goto l[|]; l: end");
        checker.fault("begin goto l[1|; l: end");
        checker.fault("begin goto l[1]|[2]; l: end");
        checker.fault("begin goto |if true then l else l; l: end");
        checker.fault("begin goto |1[2]; l: end");
    }

    private static void choices(Checker checker) {
        checker.fine("begin if true then end");
        checker.fine("begin if true then else end");
        checker.fine("begin if true then print(1) else print(2) end");
        checker.fine("begin if true then print(1) else if false then print(2) else print(3) end");
        checker.fine("begin integer i; if true then begin end else for i := 1 do if true then print(1) else end");
        checker.fine("begin if true then begin if true then print(1) end else print(2) end");
        checker.fault("begin if true then |if true then print(1) end");
        checker.fault("begin integer i; if true then |for i := 1 do print(1) end");
        checker.fault("begin if true then |if true then print(1) else print(2) end");
        checker.fault("begin if true |print(1) end");
        checker.fault("begin if |then print(1) end");
        checker.fault("begin if true then print(1); |else print(2) end");
        checker.fault("begin if true then print(1) else print(2) |else print(3) end");
        checker.fault("begin if true |else print(2) end");
        checker.fault("begin if true then |true end");
        checker.fault("begin if true then |integer i; end");
        checker.fault("begin if true|");
        checker.fault("begin if true then|");
        checker.fault("begin if true then print(1) |if");
        checker.fault("begin if true |do print(1) end");
    }

    private static void loops(Checker checker) {
        checker.fine("begin integer i; for i := 1 do end");
        checker.fine("begin integer i; for i := 1, 2 step 3 until 4, 5 while true do print(i) end");
        checker.fine("begin integer i; for i := 1 do for i := 2 do if true then begin end end");
        checker.fault("begin integer i; for |:= 1 do end");
        checker.fault("begin integer i; for |1 := 1 do end");
        checker.fault("begin integer i; for i |= 1 do end");
        checker.fault("begin integer i; for i|[1] := 1 do end");
        checker.fault("begin integer i; for i := |do end");
        checker.fault("begin integer i; for i := 1 |end");
        checker.fault("begin integer i; for i := 1, |do end");
        checker.fault("begin integer i; for i := 1 |until 2 do end");
        checker.fault("begin integer i; for i := 1 step 2 |do end");
        checker.fault("begin integer i; for i := 1 step 2 |while true do end");
        checker.fault("begin integer i; for i := 1 step |until 2 do end");
        checker.fault("begin integer i; for i := 1 step 2 until |do end");
        checker.fault("begin integer i; for i := 1 step 2 until 3 |while true do end");
        checker.fault("begin integer i; for i := 1 while |do end");
        checker.fault("begin integer i; for i := 1 while true |while true do end");
        checker.fault("begin integer i; for i := 1 while true |step 1 until 2 do end");
        checker.fault("begin integer i; for i := i |:= 1 do end");
        checker.fault("begin integer i; for i := 1 |print(1) end");
        checker.fault("begin integer i; for i := 1|; print(1) end");
    }

    private static void prints(Checker checker) {
        checker.fine("begin print(1); print((2)); print(if true then 1 else 2) end");
        checker.fault("begin print |end");
        checker.fault("begin print |1 end");
        checker.fault("begin print(|) end");
        checker.fault("begin print(1|, 2) end");
        checker.fault("begin print(1|; end");
        checker.fault("begin print(1)|) end");
        checker.fault("begin print(1|");
        checker.fault("begin print |:= 1 end");
        checker.fault("begin print|[1] end");
    }

    private static void expressions(Checker checker) {
        checker.fine("begin boolean b; b := not not b or b and not 1 + 2 * 3 ^ 4 div 5 < - 6 and (b) or true end");
        checker.fine("begin print(if 1 < 2 then 3 else if true then 4 else 5) end");
        checker.fine("begin print(if if true then false else true then 1 else 2) end");
        checker.fine("begin print(if true then (if true then 1 else 2) else 3) end");
        checker.fine("begin print(1 ^ 2 ^ 3); print(1 - 2 + 3 - 4); print(+ 1); print(- 1 - 1) end");
        checker.fine("begin boolean b; b := not 1 = 2; b := b and not b; b := not b and b end");
        checker.fault("begin print(1 +|) end");
        checker.fault("begin print(1 + |+ 2) end");
        checker.fault("begin print(- |- 2) end");
        checker.fault("begin print(1 * |- 2) end");
        checker.fault("begin print(1 ^ |- 2) end");
        checker.fault("begin print(1 + |- 2) end");
        checker.fault("begin print(|* 2) end");
        checker.fault("begin print(1 div|) end");
        checker.fault("begin print(1 |not 2) end");
        checker.fault("begin boolean b; b := 1 < 2 |< 3 end");
        checker.fault("begin boolean b; b := 1 = 2 |= 3 end");
        checker.fault("begin boolean b; b := 1 < |not b end");
        checker.fault("begin boolean b; b := 1 + |not b end");
        checker.fault("begin boolean b; b := - |not b end");
        checker.fault("begin boolean b; b := b |not b end");
        checker.fault("begin boolean b; b := not |or b end");
        checker.fault("begin boolean b; b := |and b end");
        checker.fault("begin boolean b; b := b or |end");
        checker.fault("begin boolean b; b := b or |if b then b else b end");
        checker.fault("begin boolean b; b := not |if b then b else b end");
        checker.fault("begin print(1 + |if true then 1 else 2) end");
        checker.fault("begin print(if true then |if true then 1 else 2 else 3) end");
        checker.fault("begin print(if true then 1|) end");
        checker.fault("begin print(if true then 1 |; else 2) end");
        checker.fault("begin print(if true |else 2) end");
        checker.fault("begin print(if true then |else 2) end");
        checker.fault("begin print(if true then 1 else |) end");
        checker.fault("begin print(if true then 1 else 2 |else 3) end");
        checker.fault("begin print((1|] end");
        checker.fault("begin print((|)) end");
        checker.fault("begin print((1|, 2)) end");
        checker.fault("begin print(a|:1) end");
        checker.fault("begin print(a |:= 1) end");
        checker.fault("begin print(a[1]|[2]) end");
        checker.fault("begin print(a(1)|(2)) end");
        checker.fault("begin print(a(1)|[2]) end");
        checker.fault("begin print(a(|)) end");
        checker.fault("begin print(a[|]) end");
        checker.fault("begin print(a[1, 2|, 3]) end");
        checker.fault("begin print(1|(2)) end");
        checker.fault("begin print(1|[2]) end");
        checker.fault("begin print(true |true) end");
        checker.fault("begin print(|begin end) end");
        checker.fault("begin print(|print(1)) end");
        checker.fault("begin print(|integer) end");
    }

    private static void grammarComesBeforeMeaning(Checker checker) {
        checker.fault("begin x := y; print(|) end");
        checker.fault("begin integer i, i; i := true; goto i |+ 1 end");
        checker.fault("begin x := 1 |");
        checker.fault("begin x := 1 end |x");
    }
}

/** The boundary cases of what "Terms" says on what NAMES MEAN, and on what is declared, given as value and specified. */
public final class EdgesOfMeaningTest {
    private final Checker checker = new Checker();

    public static void main(String[] args) {
        EdgesOfMeaningTest test = new EdgesOfMeaningTest();
        test.innermostBegin();
        test.innermostProcedure();
        test.whereABeginIsOver();
        test.declarationsAndLabels();
        test.parameters();
        test.boundsMeanWhatIsOutside();
        test.boundsInProcedures();
        test.onlyBoundsLookOutside();
        test.standsOnceInABegin();
        test.standsOnceAmongParameters();
        test.mayStandAgainInside();
        test.theFirstOfTwoIsMeant();
        test.everyParameterIsSpecifiedOnce();
        test.noneElseIsSpecified();
        test.valueOfIntegersAndBooleansAlone();
        test.valueOnce();
        test.checker.finish();
    }

    private void innermostBegin() {
        checker.sentence("NAMES MEAN what the innermost BEGIN or procedure around them has declared");
        checker.meant("begin integer x; {0}x := 1 end");
        checker.meant("begin integer x; begin {0}x := 1 end end");
        checker.meant("begin integer x; begin integer x; {1}x := 1 end end");
        checker.meant("begin integer x; begin integer x; begin integer x; {2}x := 1 end; {1}x := 2 end; {0}x := 3 end");
        checker.meant("begin integer x, y; begin boolean x; {2}x := {1}y = 1; begin integer y; {3}y := 1; {2}x := true end end end");
        checker.fault("begin |x := 1 end");
        checker.fault("begin begin |x := 1 end end");
        checker.fault("begin integer y; |x := 1 end");
        // Nineteen BEGINs around it.
        checker.meant("begin integer x; " + Checker.times(19, "begin ") + "{0}x := 1" + Checker.times(20, " end"));
        checker.meant("begin " + Checker.times(19, "begin integer x; ") + "{18}x := 1" + Checker.times(20, " end"));
    }

    private void innermostProcedure() {
        checker.sentence("NAMES MEAN what the innermost BEGIN or procedure around them has declared");
        checker.meant("begin integer x; procedure p(x); integer x; {2}x := 1; {0}x := 1 end");
        checker.meant("begin integer x; procedure p(y); integer y; {0}x := {2}y; {0}x := 1 end");
        checker.meant("begin integer x; procedure p(x); integer x; begin {2}x := 1; begin integer x; {3}x := 1 end end; end");
        checker.meant("begin procedure p(x); integer x; begin procedure q(x); boolean x; {3}x := true; {2}q({1}x = 1) end;"
            + " {0}p(1) end");
        checker.meant("begin procedure p(p); integer p; {1}p := 1; {0}p(1) end");
        checker.meant("begin integer procedure p(q); integer q; begin integer procedure q(p); integer p; {2}q := {3}p; {0}p := {2}q(1)"
            + " end; print({0}p(1)) end");
    }

    private void whereABeginIsOver() {
        checker.sentence("NAMES MEAN what the innermost BEGIN or procedure around them has declared");
        checker.fault("begin begin integer x; end; |x := 1 end");
        checker.fault("begin |x := 1; begin integer x; end end");
        checker.fault("begin begin integer x; end; begin |x := 1 end end");
        checker.fault("begin begin l: end; goto |l end");
        checker.fault("begin procedure p; begin integer x; end; |x := 1 end");
        checker.fault("begin procedure p(x); integer x; ; |x := 1 end");
        checker.fault("begin procedure p(x); integer x; ; procedure q; |x := 1; end");
        checker.fault("begin procedure p; begin procedure q; ; end; |q end");
        checker.fine("begin begin integer x; x := 1 end; begin boolean x; x := true end end");
    }

    private void declarationsAndLabels() {
        checker.sentence("a BEGIN its declarations and the labels of its statements");
        checker.meant("begin integer i; integer array a[1:2]; procedure p; ; switch s := {4}l; goto {4}l; l: goto {3}s[1];"
            + " {2}p; {1}a[1] := {0}i end");
        // What is declared further behind is meant, too.
        checker.meant("begin procedure p; begin {1}i := 1; {2}q; goto {4}l; goto {3}s[1] end; integer i; procedure q; {0}p;"
            + " switch s := {4}l; l: end");
        checker.meant("begin l: m: begin goto {0}l; goto {1}m; goto {2}n; goto {3}o end; n: ; o: end");
        // A label in a BEGIN that is a part of a statement is that BEGIN's.
        checker.meant("begin integer i; for {0}i := 1 do begin l: goto {1}l end; if true then begin l: goto {2}l end"
            + " else begin l: goto {3}l end end");
        checker.meant("begin l: begin l: goto {1}l end; goto {0}l end");
        checker.fault("begin if true then begin l: end else goto |l end");
    }

    private void parameters() {
        checker.sentence("a procedure its parameters");
        checker.meant("begin procedure p(a, b, c, d, e, f); value b; integer a; boolean b; integer array c; boolean array d;"
            + " label e; integer f; begin {1}a := {6}f; {2}b := {4}d[1]; {3}c[1] := {1}a; goto {5}e end; end");
        checker.meant("begin procedure p(a); integer a; if {1}a = 1 then print({1}a) else {1}a := {1}a - 1; end");
        checker.fault("begin procedure p(a); integer a; a := 1; procedure q(b); integer b; |a := 1; end");
    }

    private void boundsMeanWhatIsOutside() {
        checker.sentence("a declaration's own bounds, though, what is meant outside of the BEGIN");
        checker.fault("begin integer n; integer array a[1:|n]; end");
        checker.fault("begin integer array a[|n:1]; integer n; end");
        checker.fault("begin integer array a[1:2], b[1:|a[1]]; end");
        checker.fault("begin integer array a[1:|a[1]]; end");
        checker.fault("begin integer procedure f; f := 1; integer array a[|f:2]; end");
        checker.fault("begin integer procedure f(x); integer x; f := x; integer array a[|f(1):2]; end");
        checker.fault("begin begin integer n; integer array a[1:2, 3:|n]; end end");
        checker.meant("begin integer n; begin integer array a[{0}n:{0}n, {0}n:{0}n], b[{0}n:{0}n]; end end");
        checker.meant("begin integer n; begin integer n; integer array a[1:{0}n]; {1}n := 1 end end");
        checker.meant("begin integer n; begin integer array a[1:{0}n]; integer n; {2}n := 1 end end");
        checker.meant("begin integer n; begin integer array n[1:{0}n]; {1}n[1] := 1 end end");
        checker.meant("begin integer n; begin begin integer n; integer array a[1:{0}n]; {1}n := 1 end end end");
        checker.meant("begin integer n; begin integer n; begin integer n; integer array a[1:{1}n]; {2}n := 1 end end end");
        checker.meant("begin integer n; begin integer array a[1:{0}n]; n: goto {2}n end end");
        checker.meant("begin integer procedure n(x); integer x; {0}n := 1; begin integer n; integer array a[1:{0}n(2)]; end end");
        // The type of what is outside is the one that counts.
        checker.fine("begin integer n; begin boolean n; integer array a[1:n]; end end");
        checker.fault("begin boolean n; begin integer n; integer array a[1:|n]; end end");
        checker.fault("begin l: begin integer l; integer array a[1:|l]; end end");
    }

    private void boundsInProcedures() {
        checker.sentence("a declaration's own bounds, though, what is meant outside of the BEGIN");
        checker.meant("begin procedure p(n); integer n; begin integer array a[1:{1}n]; end; end");
        checker.meant("begin procedure p(n); integer n; begin integer n; integer array a[1:{1}n]; {2}n := 1 end; end");
        checker.meant("begin integer n; procedure p; begin integer n; integer array a[1:{0}n]; {2}n := 1 end; end");
        checker.meant("begin integer n; procedure p(m); integer m; begin integer m; integer array a[{2}m:{0}n]; {3}m := 1 end; end");
        checker.fault("begin procedure p; begin integer n; integer array a[1:|n]; end; end");
        checker.fault("begin procedure p(n); boolean n; begin integer n; integer array a[1:|n]; end; end");
        checker.meant("begin integer procedure f; begin integer array a[1:{0}f]; {0}f := {1}a[1] end; end");
    }

    private void onlyBoundsLookOutside() {
        checker.sentence("a declaration's own bounds, though, what is meant outside of the BEGIN");
        // In a procedure beside the array its BEGIN counts again, and so it does in a switch.
        checker.meant("begin integer n; begin integer array a[1:{0}n]; procedure p; {3}n := 1; integer n; {2}p end end");
        checker.meant("begin l: begin integer array a[1:2]; switch s := {3}l; l: goto {2}s[1] end end");
        checker.meant("begin integer n; begin integer n; integer array a[1:{0}n]; procedure p; begin integer array b[1:{1}n]; end;"
            + " {3}p end end");
        // A subscript is no bound.
        checker.meant("begin integer n; begin integer n; integer array a[1:{0}n]; {2}a[{1}n] := {2}a[{1}n] end end");
    }

    private void standsOnceInABegin() {
        checker.sentence("In one of these a name stands once.");
        String[] declarations = {"integer x; ", "own boolean x; ", "integer array x[1:2]; ", "procedure x; ; ",
            "integer procedure x(y); integer y; ; ", "switch x := l; ", "boolean q, x; ", "boolean array q, x[1:2]; "};
        for (String first : declarations) {
            checker.fine("begin " + first + "l: end");
            checker.fault("begin " + first + "l: |x: end");
            checker.fault("begin " + first + "l: ; ; begin end; m: |x: end");
            for (String second : declarations) {
                String other = second.replace("q", "r");
                int at = other.indexOf("x");
                checker.fault("begin " + first + other.substring(0, at) + "|" + other.substring(at) + "l: end");
            }
        }
        checker.fault("begin x: |x: end");
        checker.fault("begin x: ; |x: end");
        checker.fault("begin integer x, |x; end");
        checker.fault("begin integer x, y, z, |x; end");
        checker.fault("begin integer array x, |x[1:2]; end");
        checker.fault("begin integer array x[1:2], |x[1:2]; end");
    }

    private void standsOnceAmongParameters() {
        checker.sentence("In one of these a name stands once.");
        checker.fine("begin procedure p(a, b); integer a, b; ; end");
        checker.fault("begin procedure p(a, |a); integer a; ; end");
        checker.fault("begin procedure p(a, b, c, d, e, |a); integer a, b, c, d, e; ; end");
        checker.fault("begin procedure p(a, b, |a, b); integer a, b; ; end");
    }

    private void mayStandAgainInside() {
        checker.sentence("In one of these a name stands once.");
        checker.fine("begin integer x; begin integer x; end; begin x: end end");
        checker.fine("begin x: begin x: end; begin x: begin x: end end end");
        checker.fine("begin integer x; procedure p(x); integer x; begin integer x; x := 1 end; end");
        checker.fine("begin procedure p(p); integer p; begin integer p; end; end");
        checker.fine("begin procedure p(a); integer a; ; procedure q(a); label a; ; integer a; end");
        checker.fine("begin procedure p(a); integer a; begin a: end; end");
        checker.fine("begin switch s := l; l: begin switch l := s; s: end end");
    }

    /** Behind a second declaration nothing counts, but in front of it the first is what a name means. */
    private void theFirstOfTwoIsMeant() {
        checker.sentence("In one of these a name stands once.");
        checker.fault("begin integer x; procedure p; x := 1; boolean |x; end");
        checker.fault("begin integer x; procedure p; x := |true; boolean x; end");
        checker.fault("begin boolean x; procedure p; goto |x; x: end");
        checker.fault("begin integer x, |x; x := true end");
    }

    private void everyParameterIsSpecifiedOnce() {
        checker.sentence("Every parameter is specified once, and none else");
        for (String kind : new String[] {"integer ", "boolean ", "integer array ", "boolean array ", "label "}) {
            checker.fine("begin procedure p(a); " + kind + "a; ; end");
            checker.fine("begin procedure p(a, b, c, d, e, f); " + kind + "f, b, d, a, e, c; ; end");
            checker.fault("begin procedure p(a); " + kind + "a, |a; ; end");
            checker.fault("begin procedure p(a); " + kind + "a; " + kind + "|a; ; end");
            checker.fault("begin procedure p(a); " + kind + "a; label |a; ; end");
            checker.fault("begin procedure p(a); boolean a; " + kind + "|a; ; end");
            checker.fault("begin procedure p(a, |b); " + kind + "a; ; end");
            checker.fault("begin procedure p(|a, b); " + kind + "b; ; end");
            checker.fault("begin procedure p(a, b, c, d, e, |f); " + kind + "e, d, c, b, a; ; end");
        }
        checker.fault("begin procedure p(|a); ; end");
        checker.fault("begin procedure p(|a, b, c, d, e, f); ; end");
        // Where it stands in the head, though the specification could only stand further behind.
        checker.fault("begin procedure p(|a); begin x := 1 end; end");
        checker.fault("begin procedure p(a, |b); integer a, a; ; end");
    }

    private void noneElseIsSpecified() {
        checker.sentence("Every parameter is specified once, and none else");
        checker.fault("begin procedure p(a); integer a, |b; ; end");
        checker.fault("begin procedure p(a); integer |b, a; ; end");
        checker.fault("begin procedure p(a); integer a; label |b; ; end");
        checker.fault("begin integer b; procedure p(a); integer a, |b; ; end");
        checker.fault("begin procedure p(a); integer a, |p; ; end");
        checker.fault("begin procedure q(b); integer b; begin procedure p(a); integer a, |b; ; end; end");
        checker.fault("begin procedure q(b); integer b; ; procedure p(a); integer a, |b; ; end");
    }

    private void valueOfIntegersAndBooleansAlone() {
        checker.sentence("value is said of integers and booleans alone, once");
        checker.fine("begin procedure p(a, b); integer a; boolean b; ; end");
        checker.fine("begin procedure p(a, b); value a; integer a; boolean b; ; end");
        checker.fine("begin procedure p(a, b); value b, a; integer a; boolean b; ; end");
        checker.fault("begin procedure p(a); value |a; integer array a; ; end");
        checker.fault("begin procedure p(a); value |a; boolean array a; ; end");
        checker.fault("begin procedure p(a); value |a; label a; ; end");
        checker.fault("begin procedure p(a, b, c); value a, |b; integer a, c; label b; ; end");
        checker.fault("begin procedure p(a, b, c); value a, |b, c; integer a; label b, c; ; end");
        checker.fault("begin procedure p(a); value |b; integer a; ; end");
        checker.fault("begin procedure p(a); value |p; integer a; ; end");
        checker.fault("begin integer b; procedure p(a); value a, |b; integer a; ; end");
        checker.fault("begin procedure q(b); integer b; begin procedure p(a); value |b; integer a; ; end; end");
        // One that is not specified at all is wrong in the head.
        checker.fault("begin procedure p(|a); value a; ; end");
    }

    private void valueOnce() {
        checker.sentence("value is said of integers and booleans alone, once");
        checker.fault("begin procedure p(a); value a, |a; integer a; ; end");
        checker.fault("begin procedure p(a, b); value a, b, |a, b; integer a, b; ; end");
        checker.fault("begin procedure p(a, b); value b, |b, a; integer a, b; ; end");
        checker.fault("begin procedure p(a); value |a, a; label a; ; end");
    }
}

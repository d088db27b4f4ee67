/** Promise 4, judge: heads of procedures, and what is given for parameters. */
public final class JudgeParametersTest {
    public static void main(String[] args) {
        Checker checker = new Checker();
        specifications(checker);
        values(checker);
        numbersOfActuals(checker);
        simpleParameters(checker);
        arrayParameters(checker);
        labelParameters(checker);
        unspecifiedParameters(checker);
        checker.finish();
    }

    private static void specifications(Checker checker) {
        checker.fine("begin procedure p(a, b, c); label c; integer b; boolean array a; ; end");
        checker.fine("begin procedure p(a, b, c); integer c, a, b; ; end");
        checker.fault("begin procedure p(|a); ; end");
        checker.fault("begin procedure p(a, |b); integer a; ; end");
        checker.fault("begin procedure p(|a, b); integer b; ; end");
        checker.fault("begin procedure p(a); integer a, |a; ; end");
        checker.fault("begin procedure p(a); integer a; boolean |a; ; end");
        checker.fault("begin procedure p(a); integer a; label |a; ; end");
        checker.fault("begin procedure p(a); integer a, |b; ; end");
        checker.fault("begin procedure p(a); integer a; label |p; ; end");
        checker.fault("begin integer b; procedure p(a); integer a, |b; ; end");
        checker.fault("begin procedure p(|a); integer b; ; end");
        checker.fault("begin procedure q(b); integer b; begin procedure p(a); integer a, |b; ; end; end");
        // The first specification is the one that counts.
        checker.fault("begin procedure q; p(|true); procedure p(a); integer a; boolean a; ; end");
        checker.fault("begin procedure q; p(1); procedure p(a); integer a; boolean |a; ; end");
    }

    private static void values(Checker checker) {
        checker.fine("begin procedure p(a, b); value b, a; integer a; boolean b; ; end");
        checker.fine("begin procedure p(a, b); value a; integer a; boolean b; ; end");
        checker.fault("begin procedure p(a); value |b; integer a; ; end");
        checker.fault("begin integer b; procedure p(a); value |b; integer a; ; end");
        checker.fault("begin procedure p(a); value a, |a; integer a; ; end");
        checker.fault("begin procedure p(a); value |a; integer array a; ; end");
        checker.fault("begin procedure p(a); value |a; boolean array a; ; end");
        checker.fault("begin procedure p(a); value |a; label a; ; end");
        checker.fault("begin procedure p(|a); value a; ; end");
        checker.fault("begin procedure p(a, b); value a, |b; integer a; label b; x := 1; end");
    }

    private static void numbersOfActuals(Checker checker) {
        String head = "begin procedure p; ; procedure q(a, b); integer a, b; ; integer procedure f; f := 1;"
            + " integer procedure g(x); integer x; g := x; ";
        checker.fine(head + "p; q(1, 2); f; g(1); print(f + g(2)) end");
        checker.fault(head + "|p(1) end");
        checker.fault(head + "|q end");
        checker.fault(head + "|q(1) end");
        checker.fault(head + "|q(1, 2, 3) end");
        checker.fault(head + "|q(true) end");
        checker.fault(head + "|f(1) end");
        checker.fault(head + "|g end");
        checker.fault(head + "print(|f(1)) end");
        checker.fault(head + "print(|g) end");
        checker.fault(head + "print(|g(1, 2)) end");
        checker.fault(head + "print(g(|g)) end");
        checker.fine(head + "print(g(g(g(f)))) end");
        checker.fine("begin procedure a; p(1, true); procedure p(x, y); integer x; boolean y; ; a end");
        checker.fault("begin procedure a; p(1, |1); procedure p(x, y); integer x; boolean y; ; a end");
        checker.fault("begin procedure a; |p(1); procedure p(x, y); integer x; boolean y; ; a end");
        checker.fine("begin integer procedure r(n); integer n; r := r(n - 1); end");
        checker.fault("begin integer procedure r(n); integer n; r := |r; end");
    }

    private static void simpleParameters(Checker checker) {
        String head = "begin integer i; boolean b; integer array a[1:2]; boolean procedure h; h := true;"
            + " procedure p(x, y); integer x; boolean y; ; l: ";
        checker.fine(head + "p(1, true); p(i + 1, i < 2); p(a[1], b); p(if b then 1 else 2, h); p((i), (b)) end");
        checker.fault(head + "p(|b, b) end");
        checker.fault(head + "p(|i < 1, b) end");
        checker.fault(head + "p(|(b), b) end");
        checker.fault(head + "p(i, |i) end");
        checker.fault(head + "p(i, |- i) end");
        checker.fault(head + "p(i, |if b then 1 else 2) end");
        checker.fault(head + "p(|a, b) end");
        checker.fault(head + "p(|l, b) end");
        checker.fault(head + "p(|p, b) end");
        checker.fault(head + "p(|h, b) end");
        checker.fault(head + "p(|x, b) end");
    }

    private static void arrayParameters(Checker checker) {
        String head = "begin integer i; integer array a[1:2], c[1:2, 1:2]; boolean array b[1:2];"
            + " procedure p(x); integer array x; ; procedure q(x); boolean array x; ; l: ";
        checker.fine(head + "p(a); p(c); q(b) end");
        checker.fault(head + "p(|b) end");
        checker.fault(head + "q(|a) end");
        checker.fault(head + "p(|i) end");
        checker.fault(head + "p(|1) end");
        checker.fault(head + "p(|a[1]) end");
        checker.fault(head + "p(|(a)) end");
        checker.fault(head + "p(|a + 1) end");
        checker.fault(head + "p(|- i) end");
        checker.fault(head + "p(|l) end");
        checker.fault(head + "p(|p) end");
        checker.fault(head + "p(|z) end");
        checker.fault(head + "p(|if true then 1 else 2) end");
        checker.fault(head + "p(if true then |z else 2) end");
        checker.fault(head + "p(if true then |a else a) end");
        checker.fault(head + "|p(a, a) end");
        checker.fine("begin procedure p(x); integer array x; ; procedure q(y); integer array y; p(y); end");
        checker.fault("begin procedure p(x); integer array x; ; procedure q(y); boolean array y; p(|y); end");
        checker.fault("begin procedure p(x); integer array x; ; procedure q(y); integer y; p(|y); end");
        checker.fine("begin integer array a[1:2]; integer procedure f(x, i); integer array x; integer i; f := x[i];"
            + " print(f(a, f(a, 1))) end");
    }

    private static void labelParameters(Checker checker) {
        String head = "begin integer i; integer array a[1:2]; procedure p(x); label x; goto x;"
            + " switch s := l; l: ";
        checker.fine(head + "p(l); p(m); m: end");
        checker.fault(head + "p(|i) end");
        checker.fault(head + "p(|a) end");
        checker.fault(head + "p(|s) end");
        checker.fault(head + "p(|p) end");
        checker.fault(head + "p(|z) end");
        checker.fault(head + "p(|1) end");
        checker.fault(head + "p(|(l)) end");
        checker.fault(head + "p(|s[1]) end");
        checker.fault(head + "p(|if true then 1 else 2) end");
        checker.fault(head + "p(if true then |l else l) end");
        checker.fine("begin procedure p(x); label x; goto x; procedure q(y); label y; p(y); l: q(l) end");
        checker.fault("begin procedure p(x); label x; goto x; procedure q(y); integer y; p(|y); end");
        checker.fine("begin procedure p(x); label x; begin goto x; p(x); p(m); m: end; end");
    }

    private static void unspecifiedParameters(Checker checker) {
        // Of what is given for one nothing is needed: the head is the first that is wrong.
        checker.fault("begin procedure a; p(1); procedure p(|x); ; end");
        checker.fault("begin procedure a; p(true); procedure p(|x); ; end");
        checker.fault("begin procedure a; p(1 < 2); procedure p(|x); ; end");
        checker.fault("begin procedure a; p(|z); procedure p(x); ; end");
        checker.fault("begin procedure a; p(1 + |true); procedure p(x); ; end");
        checker.fault("begin integer array b[1:2]; procedure a; p(b); procedure p(|x); ; end");
        checker.fault("begin procedure a; p(l); procedure p(|x); ; l: end");
        // Of two parameters with one name the second is not specified.
        checker.fault("begin procedure a; p(1, true); procedure p(x, |x); integer x; ; end");
        checker.fault("begin procedure a; |p(1); procedure p(x, x); integer x; ; end");
    }
}

/** Promise 4, judge: the types that are needed, and the first token of the E that is not of it. */
public final class JudgeTypesTest {
    private static final String HEAD =
        "begin integer i, j; boolean b, c; integer array a[1:2]; boolean array d[1:2];"
        + " integer procedure f; f := 1; boolean procedure g; g := true;"
        + " integer procedure f1(x); integer x; f1 := x; boolean procedure g1(x); boolean x; g1 := x;"
        + " procedure q; ; switch s := l; l: ";

    public static void main(String[] args) {
        Checker checker = new Checker();
        integersAreNeeded(checker);
        booleansAreNeeded(checker);
        operators(checker);
        assignments(checker);
        conditionals(checker);
        whatHasNoTypeNeedsNone(checker);
        whatIsWrongByItsNumberHasItsType(checker);
        checker.finish();
    }

    private static void integersAreNeeded(Checker checker) {
        checker.fine(HEAD + "print(i + a[i] + f + f1(i)) end");
        checker.fault(HEAD + "print(|b) end");
        checker.fault(HEAD + "print(|i < j) end");
        checker.fault(HEAD + "print(|(i < j)) end");
        checker.fault(HEAD + "print(|not b) end");
        checker.fault(HEAD + "print(|d[1]) end");
        checker.fault(HEAD + "print(|g) end");
        checker.fault(HEAD + "print(|g1(b)) end");
        checker.fault(HEAD + "print(|if b then b else c) end");
        checker.fault(HEAD + "a[|b] := 1 end");
        checker.fault(HEAD + "i := a[|b] end");
        checker.fault(HEAD + "goto s[|b] end");
        checker.fault(HEAD + "for i := |b do end");
        checker.fault(HEAD + "for i := 1, |b do end");
        checker.fault(HEAD + "for i := |b step 1 until 2 do end");
        checker.fault(HEAD + "for i := 1 step |b until 2 do end");
        checker.fault(HEAD + "for i := 1 step 1 until |b do end");
        checker.fault(HEAD + "for i := |b while b do end");
        checker.fault(HEAD + "for |b := 1 do end");
        checker.fault("begin integer array a[|true:1]; end");
        checker.fault("begin integer array a[1:|true]; end");
        checker.fault("begin integer array a[1:2, |1 < 2:3]; end");
        checker.fault("begin integer array a[1:2, 1:|not true]; end");
        checker.fault("begin integer array a[1:2, 1:2]; a[1, |true] := 1 end");
    }

    private static void booleansAreNeeded(Checker checker) {
        checker.fine(HEAD + "if b then; if d[1] then; if g then; if g1(b) then; if i < j then end");
        checker.fault(HEAD + "if |i then end");
        checker.fault(HEAD + "if |- i then end");
        checker.fault(HEAD + "if |(i) then end");
        checker.fault(HEAD + "if |f then end");
        checker.fault(HEAD + "if |a[1] then end");
        checker.fault(HEAD + "print(if |i then 1 else 2) end");
        checker.fault(HEAD + "for i := 1 while |i do end");
        checker.fault(HEAD + "for i := 1 while |1 + 2 do end");
        checker.fault(HEAD + "b := not |i end");
        checker.fault(HEAD + "b := not |i + 1 end");
        checker.fault(HEAD + "b := not not |(i) end");
        checker.fine(HEAD + "b := not i < 1 end");
        checker.fault(HEAD + "b := |i or b end");
        checker.fault(HEAD + "b := b or |i end");
        checker.fault(HEAD + "b := b or b or |1 end");
        checker.fault(HEAD + "b := |i and b end");
        checker.fault(HEAD + "b := b and |i end");
        checker.fault(HEAD + "b := b and b and |i + 1 end");
        checker.fault(HEAD + "b := b or |i and b end");
        checker.fault(HEAD + "b := b or b and |i end");
        checker.fault(HEAD + "b := |i + 1 and b end");
    }

    private static void operators(Checker checker) {
        for (String sign : new String[] {"+", "-", "*", "^", "div"}) {
            checker.fine(HEAD + "i := i " + sign + " j end");
            checker.fault(HEAD + "i := |b " + sign + " i end");
            checker.fault(HEAD + "i := i " + sign + " |b end");
            checker.fault(HEAD + "i := i " + sign + " i " + sign + " |b end");
            checker.fault(HEAD + "i := |(b) " + sign + " i end");
            checker.fault(HEAD + "i := i " + sign + " |(b) end");
            checker.fault(HEAD + "b := |i " + sign + " j end");
        }
        for (String sign : new String[] {"<", "<=", "=", ">=", ">", "#"}) {
            checker.fine(HEAD + "b := i " + sign + " j end");
            checker.fault(HEAD + "b := |b " + sign + " j end");
            checker.fault(HEAD + "b := i " + sign + " |c end");
            checker.fault(HEAD + "b := i " + sign + " |(i < j) end");
            checker.fault(HEAD + "i := |i " + sign + " j end");
        }
        checker.fault(HEAD + "i := - |b end");
        checker.fault(HEAD + "i := + |b end");
        checker.fault(HEAD + "i := + |b + 1 end");
        checker.fault(HEAD + "b := |- i end");
        checker.fault(HEAD + "i := 1 + 2 * |b end");
        checker.fault(HEAD + "i := 1 + |b * 2 end");
        checker.fault(HEAD + "i := 1 * |b ^ 2 end");
        checker.fault(HEAD + "b := 1 + 2 < 3 * |b end");
        checker.fault(HEAD + "i := |b < 1 end");
        checker.fault(HEAD + "i := |i < 1 or b end");
        checker.fault(HEAD + "print(|1 < b) end");
    }

    private static void assignments(Checker checker) {
        checker.fine(HEAD + "i := 1; b := true; a[1] := i; d[1] := b; i := a[1] := j := 2; b := d[1] := c := b end");
        checker.fault(HEAD + "i := |true end");
        checker.fault(HEAD + "b := |1 end");
        checker.fault(HEAD + "a[1] := |b end");
        checker.fault(HEAD + "d[1] := |i end");
        checker.fault(HEAD + "i := |b := 1 end");
        checker.fault(HEAD + "i := |b := true end");
        checker.fault(HEAD + "i := j := |b end");
        checker.fault(HEAD + "i := j := |b := 1 end");
        checker.fault(HEAD + "i := |d[1] := 1 end");
        checker.fault(HEAD + "b := |a[1] := true end");
        checker.fault(HEAD + "i := |d[b] := 1 end");
        checker.fault(HEAD + "i := a[|b] := 1 end");
        checker.fault("begin procedure p(x, y); integer x; boolean y; begin x := 1; y := true; x := |y end; end");
        checker.fault("begin boolean procedure p; p := |1; end");
    }

    private static void conditionals(Checker checker) {
        checker.fine(HEAD + "i := if b then i else j; b := if b then b else i < j; b := if b then i < 1 else c end");
        checker.fault(HEAD + "i := if b then 1 else |b end");
        checker.fault(HEAD + "b := if b then true else |1 end");
        checker.fault(HEAD + "i := |if b then b else c end");
        checker.fault(HEAD + "i := |if b then b else 1 end");
        checker.fault(HEAD + "i := if b then 1 else if b then 2 else |c end");
        checker.fault(HEAD + "i := if b then 1 else |if b then c else b end");
        checker.fault(HEAD + "i := if b then 1 else |if b then c else 2 end");
        checker.fault(HEAD + "i := if |i then 1 else 2 end");
        checker.fault(HEAD + "i := if if |i then b else c then 1 else 2 end");
        checker.fault(HEAD + "i := if |if b then i else j then 1 else 2 end");
        checker.fault(HEAD + "i := 1 + |(if b then b else c) end");
        checker.fine(HEAD + "i := 1 + (if b then i else j) end");
        checker.fault(HEAD + "i := 1 + (if b then i else |c) end");
    }

    private static void whatHasNoTypeNeedsNone(Checker checker) {
        checker.fault(HEAD + "i := |x + 1 end");
        checker.fault(HEAD + "b := (|x) end");
        checker.fault(HEAD + "i := ((|x)) end");
        checker.fault(HEAD + "i := (|q) end");
        checker.fault(HEAD + "i := (|l) end");
        checker.fault(HEAD + "i := 1 + (|x) end");
        checker.fault(HEAD + "i := if b then |x else b end");
        checker.fault(HEAD + "b := if b then |x else 1 end");
        checker.fault(HEAD + "i := if b then (|x) else b end");
        checker.fault(HEAD + "print(if b then |x else 1) end");
        checker.fault(HEAD + "if (|x) then end");
        checker.fault(HEAD + "b := not (|x) end");
        checker.fault(HEAD + "b := (if b then |x else 1) and c end");
        // An operator gives its type even so.
        checker.fault(HEAD + "b := |x + 1 end");
        checker.fault(HEAD + "b := |(x + 1) end");
        checker.fault(HEAD + "i := |(x < 1) end");
        checker.fault(HEAD + "i := |(not x) end");
        checker.fault(HEAD + "b := |- x end");
        checker.fault(HEAD + "i := |if b then x < 1 else c end");
        // The first branch has a type, and so has the if.
        checker.fault(HEAD + "b := |if b then 1 else x end");
        checker.fault(HEAD + "i := |(if b then b else x) end");
        // Of LEFTS behind one that has none, nothing is needed; it is the first that is wrong.
        checker.fault(HEAD + "|x := b := 1 end");
    }

    private static void whatIsWrongByItsNumberHasItsType(Checker checker) {
        checker.fault(HEAD + "b := |(f(1)) end");
        checker.fault(HEAD + "b := |(f1) end");
        checker.fault(HEAD + "b := |(f1(1, 2)) end");
        checker.fault(HEAD + "b := |(a[1, 2]) end");
        checker.fault(HEAD + "i := |(g(1)) end");
        checker.fault(HEAD + "i := |(d[1, 2]) end");
        checker.fault(HEAD + "b := |if b then a[1, 2] else 1 end");
        checker.fault(HEAD + "i := (|f(1)) end");
        checker.fault(HEAD + "i := (|a[1, 2]) end");
        checker.fault(HEAD + "i := if b then |a[1, 2] else b end");
    }
}

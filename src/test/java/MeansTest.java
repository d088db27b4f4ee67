/** Promise 7: means. */
public final class MeansTest {
    public static void main(String[] args) {
        Checker checker = new Checker();
        wrongPlaces(checker);
        usesOfAllKinds(checker);
        scopes(checker);
        bounds(checker);
        heads(checker);
        lastBytes(checker);
        checker.finish();
    }

    private static void wrongPlaces(Checker checker) {
        AlgolJudge judge = new AlgolJudge();
        int[] places = {-1, 3000, 3001, Integer.MIN_VALUE, Integer.MAX_VALUE};
        checker.due("means(0) without a text", judge.means(0), AlgolJudge.NONE);
        checker.due("means(6) without a text", judge.means(6), AlgolJudge.NONE);
        for (int place : places) {
            checker.due("means(" + place + ") without a text", judge.means(place), AlgolJudge.NONE);
        }
        judge = checker.judged("begin integer i; i := 1 end");
        for (int place : places) {
            checker.due("means(" + place + ")", judge.means(place), AlgolJudge.NONE);
        }
        checker.due("means(17)", judge.means(17), 0);
        checker.due("means(14), where it is declared", judge.means(14), -1);
        checker.due("means(0), a word", judge.means(0), -1);
        checker.due("means(22), a number", judge.means(22), -1);
        checker.due("means(27), behind the text", judge.means(27), -1);
        checker.due("means(2999)", judge.means(2999), -1);
    }

    private static void usesOfAllKinds(Checker checker) {
        checker.meant("begin end");
        checker.meant("begin integer index; {0}index := {0}index + {0}index end");
        checker.meant("begin integer i; boolean b; for {0}i := {0}i step {0}i until {0}i, {0}i while {1}b do"
            + " if {1}b then print({0}i) else {0}i := if {1}b then {0}i else - {0}i end");
        checker.meant("begin integer array a[1:2], c[1:2, 1:2]; {0}a[{0}a[1]] := {1}c[{0}a[1], 2] := 3 end");
        checker.meant("begin switch s := {1}l, {2}m, {1}l; l: goto {2}m; m: goto {0}s[1] end");
        checker.meant("begin procedure p; {0}p; integer procedure f; {1}f := {1}f + 1; {0}p; {1}f; print({1}f) end");
        checker.meant("begin integer array a[1:2]; procedure p(x, y, z); integer x; integer array y; label z;"
            + " begin {3}x := {4}y[1]; goto {5}z; {1}p({3}x, {4}y, {5}z) end; l: {1}p(1, {0}a, {2}l) end");
    }

    private static void scopes(Checker checker) {
        checker.meant("begin integer i; begin {0}i := 1 end; begin integer i; {1}i := 1 end; {0}i := 2 end");
        checker.meant("begin l: begin goto {1}l; begin goto {1}l end; l: end; goto {0}l end");
        checker.meant("begin integer p; begin procedure q(p); integer p; {2}p := 1; {1}q({0}p) end; {0}p := 1 end");
        checker.meant("begin procedure a; {2}i := 1; procedure b; begin integer i; {3}i := 1 end; integer i; {0}a end");
        checker.meant("begin integer procedure f(f); value f; integer f; {1}f := 1; {0}f(2) end");
    }

    private static void bounds(Checker checker) {
        checker.meant("begin integer n; begin integer array a[1:{0}n]; integer n; {2}n := {1}a[{2}n] end end");
        checker.meant("begin procedure p(n); integer n; begin integer n; integer array a[{1}n:{1}n]; {2}n := 1 end; end");
        checker.meant("begin integer array a[1:2]; begin integer array a[{0}a[1]:2]; {1}a[1] := 2 end end");
    }

    private static void heads(Checker checker) {
        checker.meant("begin procedure pp(xx, yy); value xx; integer xx; boolean array yy; {1}xx := 1; end");
        checker.meant("begin own integer cc; boolean dd; {0}cc := 1 end");
    }

    private static void lastBytes(Checker checker) {
        String start = "begin integer i; ";
        String text = start + Checker.times(3000 - start.length() - 5, " ") + "i end";
        checker.due("judge() of a call that can not be", Checker.judge(new AlgolJudge(), text), 2995);
        String good = start + Checker.times(3000 - start.length() - 8, ";") + "i:=i end";
        AlgolJudge judge = checker.judged(good);
        checker.due("means(2992)", judge.means(2992), 0);
        checker.due("means(2995)", judge.means(2995), 0);
        checker.due("means(2999)", judge.means(2999), -1);
        checker.due("judge() of a short text", Checker.judge(judge, "begin end"), AlgolJudge.NONE);
        checker.due("means(2992) of a short text", judge.means(2992), -1);
    }
}

/** Promise 6: tell, and the numbers of names. */
public final class TellTest {
    public static void main(String[] args) {
        Checker checker = new Checker();
        wrongArguments(checker);
        kindsAndTypes(checker);
        parametersOfProcedures(checker);
        marks(checker);
        owners(checker);
        order(checker);
        orderOfNestedProcedures(checker);
        checker.finish();
    }

    /** What is due of one name: kind, type, count, mark, owner. */
    private static void told(Checker checker, AlgolJudge judge, int k, int... five) {
        for (int what = 0; what < 5; what++) {
            checker.due("tell(" + k + ", " + what + ")", judge.tell(k, what), five[what]);
        }
    }

    private static void wrongArguments(Checker checker) {
        AlgolJudge judge = new AlgolJudge();
        int[] others = {-1, 5, 6, Integer.MIN_VALUE, Integer.MAX_VALUE};
        for (int what : others) {
            checker.due("tell(0, what) without a text", judge.tell(0, what), AlgolJudge.REFUSED);
        }
        checker.due("tell(0, 0) without a text", judge.tell(0, 0), AlgolJudge.NONE);
        judge = checker.judged("begin integer i, j; end");
        for (int what : others) {
            checker.due("tell(0, what)", judge.tell(0, what), AlgolJudge.REFUSED);
            checker.due("tell(2, what)", judge.tell(2, what), AlgolJudge.REFUSED);
            checker.due("tell(-1, what)", judge.tell(-1, what), AlgolJudge.REFUSED);
        }
        int[] strangers = {-1, 2, 3, 1500, 1501, 3000, Integer.MIN_VALUE, Integer.MAX_VALUE};
        for (int k : strangers) {
            for (int what = 0; what < 5; what++) {
                checker.due("tell(" + k + ", " + what + ")", judge.tell(k, what), AlgolJudge.NONE);
            }
        }
        told(checker, judge, 1, 1, 1, 0, 0, -1);
    }

    private static void kindsAndTypes(Checker checker) {
        AlgolJudge judge = checker.judged("begin integer i; boolean b; integer array a[1:2], c[1:2, 3:4];"
            + " boolean array d, e[1:2, 1:2]; procedure p; ; integer procedure f; f := 1; boolean procedure g; ;"
            + " switch s := l; l: end");
        checker.due("names()", judge.names(), 11);
        told(checker, judge, 0, 1, 1, 0, 0, -1);
        told(checker, judge, 1, 1, 2, 0, 0, -1);
        told(checker, judge, 2, 2, 1, 1, 0, -1);
        told(checker, judge, 3, 2, 1, 2, 0, -1);
        told(checker, judge, 4, 2, 2, 2, 0, -1);
        told(checker, judge, 5, 2, 2, 2, 0, -1);
        told(checker, judge, 6, 3, 0, 0, 0, -1);
        told(checker, judge, 7, 3, 1, 0, 0, -1);
        told(checker, judge, 8, 3, 2, 0, 0, -1);
        told(checker, judge, 9, 4, 0, 0, 0, -1);
        told(checker, judge, 10, 5, 0, 0, 0, -1);
    }

    private static void parametersOfProcedures(Checker checker) {
        AlgolJudge judge = checker.judged("begin procedure p(a, b, c, d, e, f); value b; label e; boolean b, f;"
            + " integer a; integer array c; boolean array d; ; end");
        checker.due("names()", judge.names(), 7);
        told(checker, judge, 0, 3, 0, 6, 0, -1);
        told(checker, judge, 1, 6, 1, 0, 0, 0);
        told(checker, judge, 2, 6, 2, 0, 1, 0);
        told(checker, judge, 3, 7, 1, 0, 0, 0);
        told(checker, judge, 4, 7, 2, 0, 0, 0);
        told(checker, judge, 5, 8, 0, 0, 0, 0);
        told(checker, judge, 6, 6, 2, 0, 0, 0);
    }

    private static void marks(Checker checker) {
        AlgolJudge judge = checker.judged("begin own integer i, j; integer k; own boolean b;"
            + " procedure p(x, y); value y; integer x, y; begin own integer z; end; end");
        told(checker, judge, 0, 1, 1, 0, 1, -1);
        told(checker, judge, 1, 1, 1, 0, 1, -1);
        told(checker, judge, 2, 1, 1, 0, 0, -1);
        told(checker, judge, 3, 1, 2, 0, 1, -1);
        told(checker, judge, 4, 3, 0, 2, 0, -1);
        told(checker, judge, 5, 6, 1, 0, 0, 4);
        told(checker, judge, 6, 6, 1, 0, 1, 4);
        told(checker, judge, 7, 1, 1, 0, 1, 4);
    }

    private static void owners(Checker checker) {
        AlgolJudge judge = checker.judged("begin integer i; procedure p(x); integer x; begin integer j;"
            + " integer procedure q(y); integer y; begin l: begin integer k; end end; m: begin integer n; end end;"
            + " begin integer o; end end");
        checker.due("names()", judge.names(), 11);
        told(checker, judge, 0, 1, 1, 0, 0, -1); // i
        told(checker, judge, 1, 3, 0, 1, 0, -1); // p
        told(checker, judge, 2, 6, 1, 0, 0, 1); // x
        told(checker, judge, 3, 1, 1, 0, 0, 1); // j
        told(checker, judge, 4, 3, 1, 1, 0, 1); // q
        told(checker, judge, 5, 5, 0, 0, 0, 1); // m
        told(checker, judge, 6, 6, 1, 0, 0, 4); // y
        told(checker, judge, 7, 5, 0, 0, 0, 4); // l
        told(checker, judge, 8, 1, 1, 0, 0, 4); // k
        told(checker, judge, 9, 1, 1, 0, 0, 1); // n
        told(checker, judge, 10, 1, 1, 0, 0, -1); // o
    }

    /** Declarations, then labels, then parameters, then what is in the BEGIN. */
    private static void order(Checker checker) {
        AlgolJudge judge = checker.judged("begin procedure p(x); label x; begin integer i; end; boolean b;"
            + " procedure q(y, z); integer array y, z; ; l: begin own integer j; end; m: end");
        int[] kinds = {3, 1, 3, 5, 5, 8, 7, 7, 1, 1};
        int[] marks = {0, 0, 0, 0, 0, 0, 0, 0, 0, 1};
        int[] owners = {-1, -1, -1, -1, -1, 0, 2, 2, 0, -1};
        checker.due("names()", judge.names(), kinds.length);
        for (int k = 0; k < kinds.length; k++) {
            checker.due("tell(" + k + ", 0)", judge.tell(k, 0), kinds[k]);
            checker.due("tell(" + k + ", 3)", judge.tell(k, 3), marks[k]);
            checker.due("tell(" + k + ", 4)", judge.tell(k, 4), owners[k]);
        }
    }

    private static void orderOfNestedProcedures(Checker checker) {
        AlgolJudge judge = checker.judged("begin procedure p(a); integer a; begin procedure q(b); boolean b;"
            + " begin integer c; end; procedure r(d); label d; ; end; procedure s(e); integer array e; ; end");
        // p s a e, q r b d, c
        int[] kinds = {3, 3, 6, 7, 3, 3, 6, 8, 1};
        int[] owners = {-1, -1, 0, 1, 0, 0, 4, 5, 4};
        checker.due("names()", judge.names(), kinds.length);
        for (int k = 0; k < kinds.length; k++) {
            checker.due("tell(" + k + ", 0)", judge.tell(k, 0), kinds[k]);
            checker.due("tell(" + k + ", 4)", judge.tell(k, 4), owners[k]);
        }
    }
}

/** Promise 5: names. */
public final class NamesTest {
    public static void main(String[] args) {
        Checker checker = new Checker();
        checker.due("names() without a text", new AlgolJudge().names(), AlgolJudge.NONE);
        count(checker, "begin end", 0);
        count(checker, "begin integer i; end", 1);
        count(checker, "begin integer i, j; boolean b; own integer k; integer array a, c[1:2]; end", 6);
        count(checker, "begin l: m: end", 2);
        count(checker, "begin switch s := l; l: end", 2);
        count(checker, "begin procedure p; ; end", 1);
        count(checker, "begin procedure p(x, y); value x; integer x; label y; begin integer z; u: end; end", 5);
        count(checker, "begin integer i; begin integer i; begin integer i; end end end", 3);
        count(checker, "begin integer i; i := i + i; i := 1 end", 1);
        theLastGoodTextStays(checker);
        checker.finish();
    }

    private static void count(Checker checker, String text, int want) {
        checker.due("names() of " + text, checker.judged(text).names(), want);
    }

    private static void theLastGoodTextStays(Checker checker) {
        AlgolJudge judge = new AlgolJudge();
        checker.due("judge() of a fault first", Checker.judge(judge, "begin x end"), 6);
        checker.due("names()", judge.names(), AlgolJudge.NONE);
        checker.due("judge()", Checker.judge(judge, "begin integer i, j; i := j end"), AlgolJudge.NONE);
        checker.due("names()", judge.names(), 2);
        checker.due("judge() of a fault of the grammar", Checker.judge(judge, "begin integer i, j, k;"), 22);
        checker.due("names() behind it", judge.names(), 2);
        checker.due("judge() of another fault", Checker.judge(judge, "begin boolean b; b := 1 end"), 22);
        checker.due("names() behind it", judge.names(), 2);
        checker.due("tell(0, 1) behind it", judge.tell(0, 1), 1);
        checker.due("means(20) behind it", judge.means(20), 0);
        checker.due("means(25) behind it", judge.means(25), 1);
        judge.feed(0, 0, 0, 0, 0);
        checker.due("names() with bytes on the tape", judge.names(), 2);
        judge.end(0);
        checker.due("judge() of a shorter text", Checker.judge(judge, "begin l: end"), AlgolJudge.NONE);
        checker.due("names()", judge.names(), 1);
        checker.due("tell(0, 0)", judge.tell(0, 0), 5);
        checker.due("tell(1, 0)", judge.tell(1, 0), AlgolJudge.NONE);
        checker.due("means(20)", judge.means(20), -1);
        checker.due("judge() of nothing", judge.judge(), 0);
        checker.due("names()", judge.names(), 1);
    }
}

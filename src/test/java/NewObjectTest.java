/** Promise 1: a new object has no text, and its tape no bytes. */
public final class NewObjectTest {
    public static void main(String[] args) {
        Checker checker = new Checker();
        AlgolJudge judge = new AlgolJudge();
        checker.due("names()", judge.names(), AlgolJudge.NONE);
        for (int what = 0; what <= 4; what++) {
            checker.due("tell(0, " + what + ")", judge.tell(0, what), AlgolJudge.NONE);
        }
        checker.due("tell(0, 5)", judge.tell(0, 5), AlgolJudge.REFUSED);
        checker.due("means(0)", judge.means(0), AlgolJudge.NONE);
        checker.due("means(2999)", judge.means(2999), AlgolJudge.NONE);
        checker.due("end(1)", judge.end(1), AlgolJudge.REFUSED);
        checker.due("end(0)", judge.end(0), 0);
        checker.due("judge()", judge.judge(), 0);
        checker.due("names()", judge.names(), AlgolJudge.NONE);
        AlgolJudge other = new AlgolJudge();
        checker.due("judge()", Checker.judge(judge, "begin integer i; i := 1 end"), AlgolJudge.NONE);
        checker.due("names() of another object", other.names(), AlgolJudge.NONE);
        checker.finish();
    }
}

/** Promise 3: end. */
public final class EndTest {
    public static void main(String[] args) {
        Checker checker = new Checker();
        AlgolJudge judge = new AlgolJudge();
        checker.due("end(-1) of an empty tape", judge.end(-1), AlgolJudge.REFUSED);
        checker.due("end(1) of an empty tape", judge.end(1), AlgolJudge.REFUSED);
        checker.due("end(0) of an empty tape", judge.end(0), 0);
        judge.feed(0, 0, 0, 0, 0);
        checker.due("end(21)", judge.end(21), AlgolJudge.REFUSED);
        checker.due("end(min)", judge.end(Integer.MIN_VALUE), AlgolJudge.REFUSED);
        checker.due("end(max)", judge.end(Integer.MAX_VALUE), AlgolJudge.REFUSED);
        checker.due("end(20)", judge.end(20), 20);
        checker.due("end(7)", judge.end(7), 7);
        checker.due("end(8)", judge.end(8), AlgolJudge.REFUSED);
        checker.due("feed", judge.feed(0, 0, 0, 0, 0), 27);
        checker.due("end(0)", judge.end(0), 0);
        checker.due("feed", judge.feed(0, 0, 0, 0, 0), 20);
        checker.due("end(0)", judge.end(0), 0);
        Checker.feed(judge, "begin end  what is cut off");
        checker.due("end(11)", judge.end(11), 11);
        checker.due("judge()", judge.judge(), AlgolJudge.NONE);
        Checker.feed(judge, "begin end");
        checker.due("a refused end", judge.end(10), AlgolJudge.REFUSED);
        checker.due("judge() behind it", judge.judge(), AlgolJudge.NONE);
        checker.finish();
    }
}

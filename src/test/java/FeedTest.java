/** Promise 2: feed. */
public final class FeedTest {
    public static void main(String[] args) {
        Checker checker = new Checker();
        bytesStandHighestFirst(checker);
        tapeHasRoomForThreeThousand(checker);
        tapeThatWasCutIsFedOn(checker);
        fullTapeIsJudgedWhole(checker);
        judgeEmptiesTheTape(checker);
        checker.finish();
    }

    private static void bytesStandHighestFirst(Checker checker) {
        AlgolJudge judge = new AlgolJudge();
        // begin print(1) end
        checker.due("feed", judge.feed(1650812777, 1847619698, 1768846376, 824778853, 1852047360), 20);
        checker.due("end(18)", judge.end(18), 18);
        checker.due("judge()", judge.judge(), AlgolJudge.NONE);
        // A byte above 127 in each of the five.
        for (int i = 0; i < 20; i++) {
            int[] five = {0x20202020, 0x20202020, 0x20202020, 0x20202020, 0x20202020};
            five[i / 4] |= 0xff << 24 - i % 4 * 8;
            checker.due("feed", judge.feed(five[0], five[1], five[2], five[3], five[4]), 20);
            checker.due("judge() with a bad byte", judge.judge(), i);
        }
    }

    private static void tapeHasRoomForThreeThousand(Checker checker) {
        AlgolJudge judge = new AlgolJudge();
        for (int i = 1; i <= 150; i++) {
            checker.due("feed " + i, judge.feed(0, 0, 0, 0, 0), 20 * i);
        }
        checker.due("feed 151", judge.feed(0, 0, 0, 0, 0), AlgolJudge.FULL);
        checker.due("end(3001)", judge.end(3001), AlgolJudge.REFUSED);
        checker.due("end(3000)", judge.end(3000), 3000);
        checker.due("end(2981)", judge.end(2981), 2981);
        checker.due("feed at 2981", judge.feed(0, 0, 0, 0, 0), AlgolJudge.FULL);
        checker.due("end(2982)", judge.end(2982), AlgolJudge.REFUSED);
        checker.due("end(2980)", judge.end(2980), 2980);
        checker.due("feed at 2980", judge.feed(0, 0, 0, 0, 0), 3000);
    }

    private static void tapeThatWasCutIsFedOn(Checker checker) {
        AlgolJudge judge = new AlgolJudge();
        Checker.feed(judge, "begin print");
        checker.due("feed behind a cut", judge.feed(0x28312920, 0x656e6420, 0x20202020, 0x20202020, 0x20202020), 31);
        checker.due("judge()", judge.judge(), AlgolJudge.NONE);
    }

    private static void fullTapeIsJudgedWhole(Checker checker) {
        String full = "begin " + Checker.times(1497, ";") + "print";
        checker.due("judge() of a text that breaks off", Checker.judge(new AlgolJudge(), full), 1508);
        String fine = "begin " + Checker.times(2991, ";") + "end";
        checker.due("judge() of 3000 bytes", Checker.judge(new AlgolJudge(), fine), AlgolJudge.NONE);
        String open = "begin " + Checker.times(2994, " ");
        checker.due("judge() of 3000 bytes without end", Checker.judge(new AlgolJudge(), open), 3000);
    }

    private static void judgeEmptiesTheTape(Checker checker) {
        AlgolJudge judge = new AlgolJudge();
        checker.due("judge()", Checker.judge(judge, "begin end"), AlgolJudge.NONE);
        checker.due("end(1) behind judge", judge.end(1), AlgolJudge.REFUSED);
        checker.due("feed behind judge", judge.feed(0, 0, 0, 0, 0), 20);
        checker.due("judge() of a bad text", judge.judge(), 0);
        checker.due("feed behind a fault", judge.feed(0, 0, 0, 0, 0), 20);
    }
}

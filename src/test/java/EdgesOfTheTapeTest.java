/** The boundary cases of "What it is", of the TAPE and of the promises 1, 2 and 3. */
public final class EdgesOfTheTapeTest {
    private static final int BLANKS = 0x20202020;

    public static void main(String[] args) {
        Checker checker = new Checker();
        manySmallTextsInAllCalls(checker);
        fewGreatTextsInAllCalls(checker);
        laterCallsComeToAnEnd(checker);
        noneAtFirst(checker);
        noText(checker);
        atMostThreeThousand(checker);
        fullFromEveryLength(checker);
        fullLeavesTheTapeAsItIs(checker);
        judgeEmptiesIt(checker);
        otherCallsDoNotEmptyIt(checker);
        twentyBytesHighestFirst(checker);
        everyByteComesWhole(checker);
        howManyItHas(checker);
        cutToItsFirst(checker);
        whatIsCutOffIsNoPartOfAToken(checker);
        refusedIfItHasLess(checker);
        refusedBelowZero(checker);
        checker.finish();
    }

    private static int feedBlanks(AlgolJudge judge) {
        return judge.feed(BLANKS, BLANKS, BLANKS, BLANKS, BLANKS);
    }

    private static AlgolJudge withBlanks(int feeds) {
        AlgolJudge judge = new AlgolJudge();
        for (int i = 0; i < feeds; i++) {
            feedBlanks(judge);
        }
        return judge;
    }

    /** 102 rounds of five calls and two more are 512. */
    private static void manySmallTextsInAllCalls(Checker checker) {
        checker.sentence("An object is used for at most 512 calls after it has been made");
        AlgolJudge judge = new AlgolJudge();
        for (int round = 1; round <= 102; round++) {
            boolean good = round % 3 != 0;
            // begin l:goto l end   or, every third time, a label that means nothing
            int last = good ? 0x206c2065 : 0x206d2065;
            checker.due("feed in round " + round, judge.feed(0x62656769, 0x6e206c3a, 0x676f746f, last, 0x6e642020), 20);
            checker.due("end in round " + round, judge.end(18), 18);
            checker.due("judge in round " + round, judge.judge(), good ? AlgolJudge.NONE : 13);
            checker.due("names in round " + round, judge.names(), 1);
            checker.due("means in round " + round, judge.means(13), 0);
        }
        checker.due("call 511", judge.tell(0, 0), 5);
        checker.due("call 512", judge.tell(1, 0), AlgolJudge.NONE);
    }

    /** Three times 150 feeds, a judge and 19 questions are 510; two more make it 512. */
    private static void fewGreatTextsInAllCalls(Checker checker) {
        checker.sentence("An object is used for at most 512 calls after it has been made");
        AlgolJudge judge = new AlgolJudge();
        for (int round = 1; round <= 3; round++) {
            checker.due("feed", judge.feed(0x62656769, 0x6e20696e, 0x74656765, 0x7220693b, 0x693a3d69), 20);
            for (int i = 2; i < 150; i++) {
                checker.due("feed " + i, judge.feed(0x3b693a3d, 0x693b693a, 0x3d693b69, 0x3a3d693b, 0x693a3d69), 20 * i);
            }
            checker.due("feed 150", judge.feed(0x3b693a3d, 0x693b693a, 0x3d693b69, 0x3a3d6920, 0x656e6420), 3000);
            checker.due("judge in round " + round, judge.judge(), AlgolJudge.NONE);
            for (int i = 0; i < 19; i++) {
                checker.due("means", judge.means(21 + 5 * i), 0);
            }
        }
        checker.due("call 511", judge.means(2991), 0);
        checker.due("call 512", judge.names(), 1);
    }

    private static void laterCallsComeToAnEnd(Checker checker) {
        checker.sentence("what later calls answer is free");
        AlgolJudge judge = new AlgolJudge();
        for (int round = 0; round < 2000; round++) {
            judge.feed(0x62656769, 0x6e206c3a, 0x676f746f, 0x206c2065, 0x6e642020);
            judge.end(18);
            if (round % 7 == 0) {
                judge.judge();
            }
            judge.names();
            judge.tell(round, round % 5);
            judge.means(round);
        }
        checker.due("calls that threw nothing", 0, 0);
    }

    private static void noneAtFirst(Checker checker) {
        checker.sentence("THE TAPE has bytes, none at first");
        checker.due("end(0)", new AlgolJudge().end(0), 0);
        checker.due("end(1)", new AlgolJudge().end(1), AlgolJudge.REFUSED);
        checker.due("feed", feedBlanks(new AlgolJudge()), 20);
        checker.due("judge()", new AlgolJudge().judge(), 0);
    }

    private static void noText(Checker checker) {
        checker.sentence("No text.");
        checker.due("names()", new AlgolJudge().names(), AlgolJudge.NONE);
        for (int what = 0; what < 5; what++) {
            checker.due("tell(0, " + what + ")", new AlgolJudge().tell(0, what), AlgolJudge.NONE);
        }
        for (int place = 0; place < 3000; place += 2999) {
            checker.due("means(" + place + ")", new AlgolJudge().means(place), AlgolJudge.NONE);
        }
        // Neither bytes on the tape nor a text with a fault are one.
        AlgolJudge judge = new AlgolJudge();
        Checker.feed(judge, "begin l: end");
        checker.due("names() before judge", judge.names(), AlgolJudge.NONE);
        checker.due("means(6) before judge", judge.means(6), AlgolJudge.NONE);
        Checker.judge(judge, " begin l: goto m end");
        checker.due("names() behind a fault", judge.names(), AlgolJudge.NONE);
        checker.due("tell(0, 0) behind a fault", judge.tell(0, 0), AlgolJudge.NONE);
        checker.due("means(6) behind a fault", judge.means(6), AlgolJudge.NONE);
        Checker.judge(judge, "begin end");
        checker.due("names() of a text without names", judge.names(), 0);
    }

    private static void atMostThreeThousand(Checker checker) {
        checker.sentence("at most 3000");
        AlgolJudge judge = withBlanks(149);
        checker.due("feed to 3000", feedBlanks(judge), 3000);
        checker.due("feed above", feedBlanks(judge), AlgolJudge.FULL);
        checker.due("feed above, again", feedBlanks(judge), AlgolJudge.FULL);
        checker.due("end(3001)", judge.end(3001), AlgolJudge.REFUSED);
        checker.due("end(3000)", judge.end(3000), 3000);
        checker.due("judge()", judge.judge(), 3000);
    }

    private static void fullFromEveryLength(Checker checker) {
        checker.sentence("FULL if it would have more than 3000");
        for (int length = 2960; length <= 3000; length++) {
            AlgolJudge judge = withBlanks(150);
            judge.end(length);
            int due = length <= 2980 ? length + 20 : AlgolJudge.FULL;
            checker.due("feed at " + length, feedBlanks(judge), due);
            int left = length <= 2980 ? length + 20 : length;
            checker.due("end above", judge.end(left + 1), AlgolJudge.REFUSED);
            checker.due("end at it", judge.end(left), left);
        }
    }

    private static void fullLeavesTheTapeAsItIs(Checker checker) {
        checker.sentence("FULL if it would have more than 3000");
        AlgolJudge judge = new AlgolJudge();
        String text = "begin l:" + Checker.times(2975, ";") + "goto l;end";
        Checker.feed(judge, text);
        checker.due("feed", judge.feed(0x3f3f3f3f, 0x3f3f3f3f, 0x3f3f3f3f, 0x3f3f3f3f, 0x3f3f3f3f), AlgolJudge.FULL);
        checker.due("judge()", judge.judge(), AlgolJudge.NONE);
        checker.due("means(2988)", judge.means(2988), 0);
    }

    private static void judgeEmptiesIt(Checker checker) {
        checker.sentence("calls that read it empty it");
        String[] texts = {"", "begin end", "begin", "begin x end", "begin end ?", "begin l: l: end", "?"};
        for (String text : texts) {
            AlgolJudge judge = new AlgolJudge();
            Checker.judge(judge, text);
            checker.due("end(1) behind judge of " + text, judge.end(1), AlgolJudge.REFUSED);
            checker.due("end(0) behind judge of " + text, judge.end(0), 0);
            checker.due("judge() behind judge of " + text, judge.judge(), 0);
            checker.due("feed behind judge of " + text, feedBlanks(judge), 20);
        }
    }

    private static void otherCallsDoNotEmptyIt(Checker checker) {
        checker.sentence("calls that read it empty it");
        AlgolJudge judge = new AlgolJudge();
        Checker.judge(judge, "begin l: goto l end");
        Checker.feed(judge, "begin end");
        judge.names();
        judge.tell(0, 0);
        judge.tell(0, 5);
        judge.means(14);
        judge.means(-1);
        judge.end(10);
        judge.end(9);
        checker.due("end(10)", judge.end(10), AlgolJudge.REFUSED);
        checker.due("judge()", judge.judge(), AlgolJudge.NONE);
        checker.due("names()", judge.names(), 0);
    }

    private static void twentyBytesHighestFirst(Checker checker) {
        checker.sentence("Twenty bytes, five times four, the highest of each first");
        String blanks = Checker.times(20, " ");
        for (int i = 0; i < 20; i++) {
            for (int c : new int[] {0, 1, 127, 128, 255, '?', 'A'}) {
                AlgolJudge judge = new AlgolJudge();
                Checker.feed(judge, blanks.substring(0, i) + (char) c + blanks.substring(i + 1));
                checker.due("judge() with byte " + c + " at " + i, judge.judge(), i);
            }
        }
        AlgolJudge judge = new AlgolJudge();
        // begin switch s:=l,m;
        checker.due("feed", judge.feed(0x62656769, 0x6e207377, 0x69746368, 0x20733a3d, 0x6c2c6d3b), 20);
        // l:m:goto s[1]    end
        checker.due("feed", judge.feed(0x6c3a6d3a, 0x676f746f, 0x20735b31, 0x5d202020, 0x20656e64), 40);
        checker.due("judge()", judge.judge(), AlgolJudge.NONE);
        checker.due("names()", judge.names(), 3);
        checker.due("means(16)", judge.means(16), 1);
        checker.due("means(18)", judge.means(18), 2);
        checker.due("means(29)", judge.means(29), 0);
    }

    private static void everyByteComesWhole(Checker checker) {
        checker.sentence("Twenty bytes, five times four, the highest of each first");
        AlgolJudge judge = new AlgolJudge();
        checker.due("feed(-1)", judge.feed(-1, -1, -1, -1, -1), 20);
        checker.due("judge()", judge.judge(), 0);
        checker.due("feed(min)", judge.feed(BLANKS, BLANKS, BLANKS, BLANKS, Integer.MIN_VALUE), 20);
        checker.due("judge()", judge.judge(), 16);
        checker.due("feed(max)", judge.feed(BLANKS, BLANKS, Integer.MAX_VALUE, BLANKS, BLANKS), 20);
        checker.due("judge()", judge.judge(), 8);
        checker.due("feed(0)", judge.feed(BLANKS, 0, 0, 0, 0), 20);
        checker.due("judge()", judge.judge(), 4);
    }

    private static void howManyItHas(Checker checker) {
        checker.sentence("come to the TAPE: how many it has");
        AlgolJudge judge = new AlgolJudge();
        for (int i = 1; i <= 150; i++) {
            checker.due("feed " + i, feedBlanks(judge), 20 * i);
        }
        for (int cut = 0; cut <= 20; cut++) {
            judge.end(cut);
            checker.due("feed behind end(" + cut + ")", feedBlanks(judge), cut + 20);
        }
    }

    private static void cutToItsFirst(Checker checker) {
        checker.sentence("The TAPE is cut to its first n bytes: n");
        AlgolJudge judge = new AlgolJudge();
        Checker.feed(judge, "begin end end end");
        checker.due("end(17)", judge.end(17), 17);
        checker.due("end(9)", judge.end(9), 9);
        checker.due("end(9) again", judge.end(9), 9);
        checker.due("end(10)", judge.end(10), AlgolJudge.REFUSED);
        checker.due("judge()", judge.judge(), AlgolJudge.NONE);
        Checker.feed(judge, "begin end");
        checker.due("end(8)", judge.end(8), 8);
        checker.due("judge()", judge.judge(), 8);
        Checker.feed(judge, "begin end");
        checker.due("end(0)", judge.end(0), 0);
        checker.due("judge()", judge.judge(), 0);
        // What comes behind a cut takes the place of what was cut off.
        Checker.feed(judge, "begin l: goto l; goto m; end");
        judge.end(16);
        checker.due("feed behind a cut", judge.feed(0x656e6420, BLANKS, BLANKS, BLANKS, BLANKS), 36);
        checker.due("judge()", judge.judge(), AlgolJudge.NONE);
    }

    private static void whatIsCutOffIsNoPartOfAToken(Checker checker) {
        checker.sentence("The TAPE is cut to its first n bytes: n");
        cut(checker, "begin abcdefgh", "i", 14);
        cut(checker, "begin print(34359738367", "9", 23);
        cut(checker, "begin if true then l:", "=", 20);
        cut(checker, "begin end", "x", AlgolJudge.NONE);
        cut(checker, "begin en", "d", 8);
        cut(checker, "begin begin end", " end", 15);
        cut(checker, "begin end", " end", AlgolJudge.NONE);
        cut(checker, "begin end", "?", AlgolJudge.NONE);
        cut(checker, "", "begin end", 0);
    }

    /** A text that is fed with something behind it, which is then cut off. */
    private static void cut(Checker checker, String text, String behind, int due) {
        AlgolJudge judge = new AlgolJudge();
        Checker.feed(judge, text + behind);
        checker.due("end(" + text.length() + ")", judge.end(text.length()), text.length());
        checker.due("judge() of " + text + " without " + behind, judge.judge(), due);
    }

    private static void refusedIfItHasLess(Checker checker) {
        checker.sentence("REFUSED if it has less, or n is below 0");
        for (int length : new int[] {0, 1, 19, 20, 21, 2999, 3000}) {
            AlgolJudge judge = withBlanks(150);
            judge.end(length);
            checker.due("end above", judge.end(length + 1), AlgolJudge.REFUSED);
            checker.due("end(max)", judge.end(Integer.MAX_VALUE), AlgolJudge.REFUSED);
            checker.due("end at it", judge.end(length), length);
            checker.due("judge()", judge.judge(), length);
        }
    }

    private static void refusedBelowZero(Checker checker) {
        checker.sentence("REFUSED if it has less, or n is below 0");
        AlgolJudge judge = new AlgolJudge();
        checker.due("end(-1) of an empty tape", judge.end(-1), AlgolJudge.REFUSED);
        Checker.feed(judge, "begin end");
        for (int n : new int[] {-1, -9, -3000, Integer.MIN_VALUE}) {
            checker.due("end(" + n + ")", judge.end(n), AlgolJudge.REFUSED);
        }
        checker.due("judge() behind refused calls", judge.judge(), AlgolJudge.NONE);
    }
}

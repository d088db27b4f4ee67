/** The boundary cases of what "Terms" says on how many there may be of something. */
public final class EdgesOfCountsTest {
    private final Checker checker = new Checker();

    public static void main(String[] args) {
        EdgesOfCountsTest test = new EdgesOfCountsTest();
        test.parameters();
        test.actualsAreNotCounted();
        test.namesInASwitch();
        test.variables();
        test.arrays();
        test.allKindsTogether();
        test.allBlocksTogether();
        test.proceduresCountForThemselves();
        test.nestedProcedures();
        test.otherNamesDoNotCount();
        test.namesThatStandTwiceCount();
        test.tooManyComesWhereItStands();
        test.theNextTextCountsAnew();
        test.mostNames();
        test.mostBlocks();
        test.checker.finish();
    }

    private static String a(int count) {
        return Checker.names("a", count);
    }

    private static String b(int count) {
        return Checker.names("b", count);
    }

    private void parameters() {
        checker.sentence("at most 6 parameters");
        checker.fine("begin procedure p; ; p end");
        for (int count = 1; count <= 6; count++) {
            String actuals = "1" + Checker.times(count - 1, ", 1");
            checker.fine("begin procedure p(" + a(count) + "); integer " + a(count) + "; ; p(" + actuals + ") end");
            AlgolJudge judge = checker.judged("begin boolean procedure p(" + a(count) + "); label " + a(count) + "; ; end");
            checker.due("tell(0, 2)", judge.tell(0, 2), count);
        }
        checker.fault("begin procedure p(" + a(6) + ",|a7); integer " + a(7) + "; ; end");
        checker.fault("begin integer procedure p(" + a(6) + ",|a7,a8,a9); integer " + a(9) + "; ; end");
        checker.fault("begin procedure p(" + a(6) + ",|); ; end");
        checker.fault("begin procedure p(" + a(6) + ",|");
        checker.fault("begin procedure p(" + a(6) + "|");
        // Six in each of two procedures, one in the other.
        checker.fine("begin procedure p(" + a(6) + "); integer " + a(6) + "; begin procedure q(" + b(6) + "); integer "
            + b(6) + "; ; end; procedure r(" + a(6) + "); label " + a(6) + "; ; end");
    }

    private void actualsAreNotCounted() {
        checker.sentence("at most 6 parameters");
        checker.fault("begin procedure p(" + a(6) + "); integer " + a(6) + "; ; |p(1, 2, 3, 4, 5, 6, 7) end");
        checker.fault("begin procedure p(" + a(6) + "); integer " + a(6) + "; ; |p(1, 2, 3, 4, 5) end");
        checker.fault("begin procedure p; ; |p(1" + Checker.times(900, ", 1") + ") end");
        checker.fault("begin procedure p; ; p(1" + Checker.times(900, ", 1") + "|");
    }

    private void namesInASwitch() {
        checker.sentence("20 names in a switch");
        for (int count = 1; count <= 20; count++) {
            checker.fine("begin switch s := l" + Checker.times(count - 1, ",l") + "; l: goto s[1] end");
        }
        checker.fault("begin switch s := l" + Checker.times(19, ",l") + ",|l; l: end");
        checker.fault("begin switch s := l" + Checker.times(19, ",l") + ",|l,l,l; l: end");
        checker.fault("begin switch s := l" + Checker.times(19, ",l") + ",|; l: end");
        checker.fault("begin switch s := l" + Checker.times(19, ",l") + "|");
        String labels = Checker.names("l", 20);
        checker.fine("begin switch s := " + labels + "; " + labels.replace(',', ':') + ": end");
        checker.fault("begin switch s := " + labels + ",|l21; " + labels.replace(',', ':') + ":l21: end");
        // Twenty in each.
        checker.fine("begin switch s := l" + Checker.times(19, ",l") + "; switch t := l" + Checker.times(19, ",l") + "; l: end");
    }

    private void variables() {
        checker.sentence("60 names of variables and arrays (own ones, too) in a procedure or the program");
        checker.fine("begin integer " + a(60) + "; end");
        checker.fine("begin own boolean " + a(60) + "; end");
        checker.fault("begin integer " + a(60) + ",|b; end");
        checker.fault("begin own boolean " + a(60) + ",|b; end");
        checker.fault("begin integer " + a(60) + ",|");
        checker.fault("begin integer " + a(60) + "|");
        checker.fine("begin " + oneByOne("integer ", "", 60) + "end");
        checker.fault("begin " + oneByOne("integer ", "", 60) + "boolean |b; end");
        checker.fine("begin " + oneByOne("own boolean ", "", 60) + "end");
        checker.fault("begin " + oneByOne("own boolean ", "", 60) + "own integer |b; end");
    }

    private void arrays() {
        checker.sentence("60 names of variables and arrays (own ones, too) in a procedure or the program");
        checker.fine("begin integer array " + a(60) + "[1:2]; end");
        checker.fault("begin integer array " + a(60) + ",|b[1:2]; end");
        checker.fault("begin boolean array " + a(60) + "[1:2], |b[1:2]; end");
        checker.fine("begin " + oneByOne("integer array ", "[1:2]", 60) + "end");
        checker.fault("begin " + oneByOne("integer array ", "[1:2]", 60) + "integer array |b[1:2]; end");
        checker.fault("begin integer array " + a(59) + "[1:2, 3:4], b[1:2], |c; end");
    }

    /** a1 to an, each with a declaration of its own. */
    private static String oneByOne(String before, String behind, int count) {
        return before + a(count).replace(",", behind + ";" + before) + behind + ";";
    }

    private void allKindsTogether() {
        checker.sentence("60 names of variables and arrays (own ones, too) in a procedure or the program");
        String most = "begin integer " + a(20) + "; own boolean " + b(20) + "; boolean array " + Checker.names("c", 19)
            + "[1:2]; ";
        checker.fine(most + "integer d; end");
        checker.fine(most + "own integer d; end");
        checker.fine(most + "integer array d[1:2]; end");
        checker.fault(most + "integer d, |e; end");
        checker.fault(most + "own integer d; boolean |e; end");
        checker.fault(most + "integer array d[1:2], |e[1:2]; end");
        checker.fault(most + "integer d; integer array |e[1:2]; end");
        checker.fault(most + "integer array d[1:2]; own boolean |e; end");
    }

    private void allBlocksTogether() {
        checker.sentence("60 names of variables and arrays (own ones, too) in a procedure or the program");
        checker.fine("begin integer " + a(59) + "; begin integer a1; end end");
        checker.fault("begin integer " + a(59) + "; begin integer a1, |a2; end end");
        checker.fault("begin integer " + a(59) + "; begin integer a1; end; begin own integer |a1; end end");
        checker.fault("begin integer " + a(59) + "; begin integer a1; begin integer array |a1[1:2]; end end end");
        checker.fine("begin " + Checker.times(60, "begin integer a; end;") + "end");
        checker.fault("begin " + Checker.times(60, "begin integer a; end;") + "begin integer |a; end end");
        checker.fine("begin integer i; for i := 1 do if true then begin integer " + a(59) + "; end else begin end end");
        checker.fault("begin integer i; for i := 1 do if true then begin integer " + a(59) + "; end else begin integer |b; end end");
    }

    private void proceduresCountForThemselves() {
        checker.sentence("in a procedure or the program, outside the procedures in it");
        String inner = "procedure p; begin integer " + b(60) + "; end; ";
        checker.fine("begin integer " + a(60) + "; " + inner + "end");
        checker.fine("begin " + inner + "integer " + a(60) + "; end");
        checker.fine("begin integer " + a(59) + "; " + inner + "integer c; end");
        checker.fault("begin integer " + a(59) + "; " + inner + "integer c, |d; end");
        checker.fault("begin integer " + a(60) + "; " + inner + "integer |c; end");
        checker.fault("begin " + inner + "integer " + a(60) + ", |c; end");
        checker.fault("begin procedure p; begin integer " + b(60) + ", |c; end; end");
        checker.fault("begin integer a; procedure p; begin integer " + b(60) + "; begin own boolean |c; end end; end");
        // One procedure after the other, with sixty each.
        checker.fine("begin " + Checker.times(10, "begin " + inner + " end; ") + "end");
        checker.fault("begin " + inner + "procedure q; begin integer " + a(60) + ", |c; end; end");
    }

    private void nestedProcedures() {
        checker.sentence("in a procedure or the program, outside the procedures in it");
        String deep = "begin integer " + Checker.names("a", 60) + "; end; ";
        checker.fine("begin procedure p; begin procedure q; " + deep + "integer " + b(60) + "; end; integer "
            + Checker.names("c", 60) + "; end");
        checker.fault("begin procedure p; begin procedure q; " + deep + "integer " + b(60) + ", |d; end; integer "
            + Checker.names("c", 60) + "; end");
        checker.fault("begin procedure p; begin procedure q; " + deep + "integer " + b(60) + "; end; integer "
            + Checker.names("c", 60) + ", |d; end");
        checker.fault("begin integer " + Checker.names("c", 59) + "; procedure p; begin integer " + b(59) + "; procedure q; "
            + deep + "integer d; end; integer d, |e; end");
    }

    private void otherNamesDoNotCount() {
        checker.sentence("60 names of variables and arrays");
        checker.fine("begin integer " + a(60) + "; procedure p; ; integer procedure q; ; switch s := l; l: m: begin n: end end");
        checker.fine("begin integer " + a(60) + "; " + Checker.names("l", 100).replace(',', ':') + ": end");
        checker.fine("begin procedure p(" + Checker.names("x", 6) + "); integer array " + Checker.names("x", 6)
            + "; begin integer " + a(60) + "; end; end");
        checker.fine("begin procedure p(" + Checker.names("x", 6) + "); value " + Checker.names("x", 6) + "; integer "
            + Checker.names("x", 6) + "; ; integer " + a(60) + "; end");
        checker.fine("begin " + Checker.times(90, "begin procedure p; ; end;") + "end");
        StringBuilder procedures = new StringBuilder("begin ");
        for (int i = 0; i < 100; i++) {
            procedures.append("procedure p").append(i).append("; ; ");
        }
        checker.fine(procedures + "integer " + a(60) + "; end");
    }

    private void namesThatStandTwiceCount() {
        checker.sentence("60 names of variables and arrays");
        checker.fault("begin integer a, |a" + Checker.times(58, ",a") + "; end");
        checker.fault("begin integer a" + Checker.times(59, ",a") + ",|a; end");
        checker.fault("begin procedure p(a, |a, a, a, a, a); integer a; ; end");
        checker.fault("begin procedure p(a, a, a, a, a, a, |a); integer a; ; end");
    }

    private void tooManyComesWhereItStands() {
        checker.sentence("too deep or too many: its own");
        checker.fault("begin x := |; end; begin integer " + a(61) + "; end");
        checker.fault("begin integer " + a(60) + ",|b, ?; end");
        checker.fault("begin integer " + a(60) + " |b; ?");
        checker.fault("begin integer " + a(60) + ",|?b; end");
        checker.fault("begin procedure p(" + a(6) + ",|b ?");
        checker.fault("begin procedure p(" + a(5) + ", |? b, c)");
        checker.fault("begin switch s := l" + Checker.times(19, ",l") + ",|l ?");
        // The meaning of a name further in front is wrong, but the grammar comes first.
        checker.fault("begin integer a1, " + a(59) + ",|b; end");
        checker.fault("begin switch s := q" + Checker.times(19, ",l") + ",|l; end");
    }

    private void theNextTextCountsAnew() {
        checker.sentence("60 names of variables and arrays (own ones, too) in a procedure or the program");
        AlgolJudge judge = new AlgolJudge();
        String most = "begin integer " + a(60) + "; end";
        String[] before = {most, "begin integer " + a(61) + "; end", "begin integer " + a(60), "begin procedure p; begin integer "
            + a(30) + ";", "begin integer " + a(30) + "; procedure p; begin integer " + a(60) + ";"};
        for (String text : before) {
            Checker.judge(judge, text);
            checker.due("judge() behind " + text, Checker.judge(judge, most), AlgolJudge.NONE);
            checker.due("names() behind " + text, judge.names(), 60);
            Checker.judge(judge, text);
            int place = ("begin integer " + a(60) + ",").length();
            checker.due("judge() of 61 behind " + text, Checker.judge(judge, "begin integer " + a(61) + "; end"), place);
        }
    }

    /** As many names as 3000 bytes can declare: labels with as few letters as can be. */
    private void mostNames() {
        checker.sentence("at most 3000");
        StringBuilder text = new StringBuilder("begin ");
        int count = 0;
        for (int i = 0; text.length() < 2990; i++) {
            String name = shortName(i);
            if (!" if do or end for own not and div ".contains(" " + name + " ")) {
                text.append(name).append(':');
                count++;
            }
        }
        AlgolJudge judge = checker.judged(text + "end");
        checker.due("names() above 990: " + count, count > 990 ? 1 : 0, 1);
        checker.due("names()", judge.names(), count);
        checker.due("tell of the last", judge.tell(count - 1, 0), 5);
        checker.due("tell behind the last", judge.tell(count, 0), AlgolJudge.NONE);
        checker.due("means of a label", judge.means(6), -1);
        // Again and again on one object.
        for (int round = 2; round <= 3; round++) {
            checker.due("judge() in round " + round, Checker.judge(judge, text + "end"), AlgolJudge.NONE);
            checker.due("names() in round " + round, judge.names(), count);
        }
        // Fifteen hundred that are all the same, and one behind them that is meant in front.
        checker.fault("begin a:|" + Checker.times(1494, "a:") + " end");
        checker.fault("begin " + Checker.times(1497, "a:") + "|");
        checker.fault("begin procedure p;goto z;a:|" + Checker.times(1484, "a:") + "z:end");
        checker.fault("begin procedure p;goto |z;a:" + Checker.times(1484, "a:") + "y:end");
    }

    /** First the names of one letter, then those with a letter or a digit more, then those with two. */
    private static String shortName(int i) {
        String signs = "abcdefghijklmnopqrstuvwxyz0123456789";
        if (i < 26) {
            return signs.substring(i, i + 1);
        }
        return shortName((i - 26) / 36) + signs.charAt((i - 26) % 36);
    }

    private void mostBlocks() {
        checker.sentence("at most 3000");
        checker.fine("begin " + Checker.times(299, "begin end;") + "end");
        checker.fault("begin " + Checker.times(299, "begin end;") + "en|");
        AlgolJudge judge = checker.judged("begin " + Checker.times(249, "begin a:end;") + "end");
        checker.due("names()", judge.names(), 249);
        judge = checker.judged("begin " + Checker.times(130, "begin l:goto l end;") + "end");
        checker.due("names()", judge.names(), 130);
        for (int i = 0; i < 130; i++) {
            checker.due("means in block " + i, judge.means(6 + 19 * i + 13), i);
        }
        // Blocks one in the other, as deep as can be, and again and again.
        String deep = Checker.times(19, "begin ") + Checker.times(19, "end ") + ";";
        checker.fine("begin " + Checker.times(15, deep) + "end");
        judge = checker.judged("begin " + Checker.times(130, "begin procedure p;;end;") + "end");
        checker.due("names()", judge.names(), 130);
    }
}

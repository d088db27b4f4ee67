import java.util.ArrayList;
import java.util.List;

/** One object judges two texts, and answers of the second as a new one does: nothing is left of the first. */
public final class ReuseTest {
    private static final String[] TEXTS = {
        "begin end",
        "begin integer i; i := 1 end",
        "begin own integer i, j; own boolean b; b := i < j end",
        "begin integer array a[1:2], c[1:2, 1:2]; boolean array d, e[1:2, 3:4]; a[1] := c[1, 2] end",
        "begin procedure p(x, y); value x; integer x; boolean array y; y[x] := true; l: end",
        "begin procedure p(x, y, z, u, v, w); value x, y, z; integer x, y, z, u, v, w; begin integer x; x := y end; end",
        "begin integer procedure f; begin procedure g; f := 1; g end; boolean procedure h(l); label l; goto l; m: f end",
        "begin switch s := l, m; l: goto s[1]; m: begin switch s := l; l: goto s[1] end end",
        "begin " + Checker.names("l", 150).replace(',', ':') + ": goto l150 end",
        "begin integer " + Checker.names("a", 60) + "; a60 := a1 end",
        Checker.times(20, "begin integer i; ") + "i := 1" + Checker.times(20, " end"),
        "begin " + Checker.times(60, "begin l: goto l end; ") + "end",
        "begin integer i, i; end",
        "begin integer " + Checker.names("a", 60) + ", b; end",
        "begin integer " + Checker.names("a", 60) + "; procedure p; begin integer " + Checker.names("b", 40),
        "begin own integer i; procedure p(x); value x; integer x; nil := 1; end",
        "begin procedure p(x); ; end",
        "begin procedure p(x); value x; label x; ; end",
        "begin begin begin begin integer array a[1:2]; a[((((1 end",
        "begin if true then for",
        "begin print(not not not (if true then",
        Checker.times(21, "begin "),
        "begin nil := nil; goto nil; nil end",
        "",
        "?"
    };

    public static void main(String[] args) {
        Checker checker = new Checker();
        for (String first : TEXTS) {
            for (String second : TEXTS) {
                AlgolJudge judge = new AlgolJudge();
                int before = Checker.judge(judge, first);
                AlgolJudge fresh = new AlgolJudge();
                int fault = Checker.judge(fresh, second);
                String pair = " of " + second + " behind " + first;
                checker.due("judge()" + pair, Checker.judge(judge, second), fault);
                if (fault != AlgolJudge.NONE && before == AlgolJudge.NONE) {
                    fresh = new AlgolJudge();
                    Checker.judge(fresh, first);
                }
                compare(checker, pair, judge, fresh);
            }
        }
        checker.finish();
    }

    private static void compare(Checker checker, String pair, AlgolJudge judge, AlgolJudge fresh) {
        List<Integer> got = answers(judge);
        List<Integer> want = answers(fresh);
        for (int i = 0; i < want.size(); i++) {
            checker.due("answer " + i + pair, got.get(i), want.get(i));
        }
    }

    /** names, all that is told of the first and the last names, and what is meant in the first 200 places. */
    private static List<Integer> answers(AlgolJudge judge) {
        List<Integer> all = new ArrayList<>();
        int names = judge.names();
        all.add(names);
        for (int k = 0; k < 10; k++) {
            for (int what = 0; what < 5; what++) {
                all.add(judge.tell(k, what));
                all.add(judge.tell(names - k, what));
            }
        }
        for (int place = 0; place < 200; place++) {
            all.add(judge.means(place));
        }
        return all;
    }
}

/** Promise 4, judge: the tokens of a text. */
public final class JudgeTokensTest {
    public static void main(String[] args) {
        Checker checker = new Checker();
        blanks(checker);
        names(checker);
        words(checker);
        numbers(checker);
        signs(checker);
        badBytes(checker);
        badTokenCountsOnlyWhereItIsReached(checker);
        checker.finish();
    }

    private static void blanks(Checker checker) {
        checker.fine("\n begin\nend \n ");
        checker.fine("begin integer i;i:=1end");
        checker.fine("begin integer i;i  \n:=\n1 end");
        checker.fault("begin|\tend");
        checker.fault("begin|\rend");
        checker.fault("begin|\0end");
        checker.fault("|");
        checker.fault("  \n |");
        checker.fault("begin \n |");
    }

    private static void names(Checker checker) {
        checker.fine("begin integer a, abcdefgh, a1234567, z9, a0z; a := abcdefgh end");
        checker.fault("begin integer |abcdefghi; end");
        checker.fault("begin integer |a12345678; end");
        checker.fault("begin integer |procedur1; end");
        checker.fault("begin integer |procedures; end");
        checker.fault("begin integer |" + Checker.times(500, "x") + "; end");
        checker.fault("begin integer a|A; end");
        checker.fault("begin integer |A; end");
        checker.fault("begin integer a|_b; end");
        checker.fault("begin integer |1a; end");
        checker.fault("begin integer a |b; end");
        checker.fine("begin integer abcdefgh, abcdefgi, bbcdefgh, abcdefg, abcdefg0; end");
    }

    private static void words(Checker checker) {
        String[] words = {"begin", "end", "integer", "boolean", "array", "procedure", "value", "own", "switch",
            "label", "if", "then", "else", "for", "do", "step", "until", "while", "goto", "true", "false", "not",
            "and", "or", "div", "print"};
        for (String word : words) {
            checker.fault("begin own integer |" + word + "; end");
            if (word.length() < 8) {
                checker.fine("begin own integer " + word + "1; end");
                checker.fine("begin own integer x" + word + "; end");
                checker.fine("begin own integer " + word.substring(1) + "x; end");
            }
        }
        checker.fault("|beginend");
        checker.fault("|begin1 end");
        checker.fault("begin en|");
        checker.fault("begin en |d");
        checker.fault("begin integer i; i := 1 |endx");
    }

    private static void numbers(Checker checker) {
        checker.fine("begin print(0) end");
        checker.fine("begin print(34359738367) end");
        checker.fine("begin print(00000000000000000000034359738367) end");
        checker.fault("begin print(|34359738368) end");
        checker.fault("begin print(|00034359738368) end");
        checker.fault("begin print(|99999999999) end");
        checker.fault("begin print(|18446744073709551616) end");
        checker.fault("begin print(|9223372036854775808) end");
        checker.fault("begin print(|1" + Checker.times(300, "0") + ") end");
        checker.fault("begin print(1|a) end");
        checker.fault("begin print(1 |2) end");
        checker.fault("begin print(1|.5) end");
    }

    private static void signs(Checker checker) {
        checker.fine("begin boolean b; b := 1<2; b := 1<=2; b := 1=2; b := 1>=2; b := 1>2; b := 1#2 end");
        checker.fault("begin boolean b; b := 1< |=2 end");
        checker.fault("begin boolean b; b := 1> |=2 end");
        checker.fault("begin boolean b; b := 1=|<2 end");
        checker.fault("begin boolean b; b := 1=|>2 end");
        checker.fault("begin boolean b; b := 1<|>2 end");
        checker.fault("begin boolean b; b := 1#|=2 end");
        checker.fault("begin boolean b; b := 1=|=2 end");
        checker.fault("begin boolean b; b: |= true end");
        checker.fault("begin integer array a[1|:=2]; end");
        checker.fine("begin integer array a[1:+2]; end");
        checker.fine("begin print(1+2-3*4^5div 6) end");
        checker.fault("begin print(1*|*2) end");
        checker.fault("begin boolean b; b:|:= true end");
        checker.fault("begin boolean b; b |<= true end");
    }

    private static void badBytes(Checker checker) {
        for (int c = 0; c < 256; c++) {
            boolean known = c == 10 || c == 32 || c >= 'a' && c <= 'z' || c >= '0' && c <= '9'
                || "+-*^()[],;:<=>#".indexOf(c) >= 0;
            if (!known && c != '|') {
                checker.fault("begin |" + (char) c + "end");
                checker.fault("|" + (char) c);
            }
        }
        checker.due("judge() with |", Checker.judge(new AlgolJudge(), "begin |end"), 6);
        checker.fault("begin |\u00e4 end");
        checker.fault("begin |\u00ff end");
    }

    private static void badTokenCountsOnlyWhereItIsReached(Checker checker) {
        checker.fault("begin print(|) ? end");
        checker.fault("begin integer i; i := i |i ? end");
        checker.fault("begin x := 1; |? end");
        checker.fault("begin end |?");
        checker.fault("begin end |abcdefghijk");
        checker.fault("begin end |34359738368");
    }
}

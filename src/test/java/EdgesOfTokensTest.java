/** The boundary cases of what "Terms" says on TOKENS. */
public final class EdgesOfTokensTest {
    private static final String[] WORDS = {"begin", "end", "integer", "boolean", "array", "procedure", "value",
        "own", "switch", "label", "if", "then", "else", "for", "do", "step", "until", "while", "goto", "true",
        "false", "not", "and", "or", "div", "print"};

    public static void main(String[] args) {
        Checker checker = new Checker();
        asLongAsCanBe(checker);
        blanksBetween(checker);
        noOtherBlanks(checker);
        blanksEndATokenToo(checker);
        whatANameBeginsWith(checker);
        whatANameGoesOnWith(checker);
        atMostEight(checker);
        namesDiffer(checker);
        wordsAreNoNames(checker);
        nearlyWordsAreNames(checker);
        atMostTheGreatestNumber(checker);
        numbersThatComeRound(checker);
        signsThatThereAre(checker);
        bytesThatBeginNone(checker);
        firstByteOfWhatIsTooLong(checker);
        theEndIsHowManyBytesThereAre(checker);
        asManyTokensAsBytes(checker);
        checker.finish();
    }

    private static void asLongAsCanBe(Checker checker) {
        checker.sentence("TOKENS of a text, each as long as can be");
        checker.fine("begin integer i;boolean b;b:=i<=1;b:=1>=i;i:=1div 2;b:=1<2and 2<3or b end");
        checker.fine("begin integer i1;i1:=1end");
        checker.fine("begin integer begin1;begin1:=1 end");
        checker.fault("begin integer i;i1:|1 end");
        checker.fault("begin boolean b; b:=|notb end");
        checker.fault("begin boolean b; b:=b |andb end");
        checker.fault("begin goto1:goto |goto2 end");
        checker.fault("begin boolean b; b:=|=b end");
        checker.fault("begin boolean b; b:=1<=|=2 end");
        checker.fault("begin boolean b; b:=1>=|=2 end");
        checker.fault("begin boolean b; b:|:=true end");
        checker.fault("begin boolean b; b:=1<|>2 end");
        checker.fault("begin boolean b; b:=1=|<2 end");
        checker.fault("|beginend");
    }

    private static void blanksBetween(Checker checker) {
        checker.sentence("with blanks (32) and byte 10 between where one likes");
        String[] tokens = {"begin", "integer", "i", ",", "j", ";", "i", ":=", "(", "1", "+", "j", ")", ";", "l", ":",
            "end"};
        for (String blank : new String[] {" ", "\n", "  ", "\n\n", " \n", "\n ", " \n \n "}) {
            checker.fine(String.join(blank, tokens));
            checker.fine(blank + String.join(blank, tokens) + blank);
        }
        checker.fine("begin integer i,j;i:=(1+j);l:end");
    }

    private static void noOtherBlanks(Checker checker) {
        checker.sentence("with blanks (32) and byte 10 between where one likes");
        for (int c : new int[] {0, 8, 9, 11, 12, 13, 31, 33, 127, 128, 133, 160, 255}) {
            checker.fault("begin|" + (char) c + "end");
            checker.fault("|" + (char) c + "begin end");
            checker.fault("begin end|" + (char) c);
        }
    }

    private static void blanksEndATokenToo(Checker checker) {
        checker.sentence("with blanks (32) and byte 10 between where one likes");
        for (String blank : new String[] {" ", "\n"}) {
            checker.fault("|beg" + blank + "in end");
            checker.fault("begin integer i" + blank + "|j; end");
            checker.fault("begin print(1" + blank + "|2) end");
            checker.fault("begin integer i; i:" + blank + "|=1 end");
            checker.fault("begin boolean b; b:=1<" + blank + "|=2 end");
            checker.fault("begin boolean b; b:=1>" + blank + "|=2 end");
        }
    }

    private static void whatANameBeginsWith(Checker checker) {
        checker.sentence("NAME: a small letter, then small letters and digits");
        for (int c = 'a'; c <= 'z'; c++) {
            checker.fine("begin integer " + (char) c + "; end");
        }
        for (int c : new int[] {'`', '{', 'A', 'Z', '_', '@', 225}) {
            checker.fault("begin integer |" + (char) c + "; end");
            checker.fault("begin integer |" + (char) c + "a; end");
        }
        checker.fault("begin integer |0; end");
        checker.fault("begin integer |9a; end");
    }

    private static void whatANameGoesOnWith(Checker checker) {
        checker.sentence("NAME: a small letter, then small letters and digits");
        for (String more : new String[] {"a", "z", "0", "9", "aaaaaaa", "0000000", "z9z9z9z", "9999999"}) {
            checker.fine("begin integer q" + more + "; q" + more + " := 1 end");
        }
        for (int c : new int[] {'/', '`', '{', 'A', 'Z', '_', '.', '@', 170, 178, 228}) {
            checker.fault("begin integer q|" + (char) c + "; end");
            checker.fault("begin integer q1|" + (char) c + "1; end");
        }
    }

    private static void atMostEight(Checker checker) {
        checker.sentence("small letters and digits, at most 8");
        for (int size = 1; size <= 12; size++) {
            String letters = "abcdefghijkl".substring(0, size);
            String digits = "q12345678901".substring(0, size);
            for (String name : new String[] {letters, digits}) {
                checker.fault("begin integer " + (size <= 8 ? name + ", |, " : "|" + name) + "; end");
                checker.fault("begin " + (size <= 8 ? name + ": |?" : "|" + name + ": ?"));
            }
        }
        checker.fine("begin integer abcdefgh, a2345678; abcdefgh := a2345678 end");
        checker.fault("begin integer |" + Checker.times(2900, "q") + "; end");
    }

    /** All in one BEGIN, so that two that were taken for one would be a fault. */
    private static void namesDiffer(Checker checker) {
        checker.sentence("NAME: a small letter, then small letters and digits");
        String[] names = {"a", "aa", "aaa", "aaaaaaa", "aaaaaaaa", "b", "ab", "ba", "az", "a0", "a9", "z", "z0", "z9",
            "zz", "a1", "a10", "a01", "aaaaaaab", "aaaaaaa0", "aaaaaaa9", "baaaaaaa", "zzzzzzzz", "z9999999",
            "y9999999", "zzzzzzz", "abcdefgh", "abcdefhg", "bacdefgh", "a0000000", "a000000", "b0000000"};
        StringBuilder text = new StringBuilder("begin integer " + String.join(",", names) + ";");
        int[] places = new int[names.length];
        for (int i = 0; i < names.length; i++) {
            places[i] = text.length();
            text.append(names[i]).append(":=1;");
        }
        AlgolJudge judge = checker.judged(text + "end");
        for (int i = 0; i < names.length; i++) {
            checker.due("means of " + names[i], judge.means(places[i]), i);
        }
        checker.fault("begin integer abcdefgh, abcdefg, |abcdefgh; end");
        checker.fault("begin integer a, |a; end");
    }

    private static void wordsAreNoNames(Checker checker) {
        checker.sentence("words that are no names");
        for (String word : WORDS) {
            checker.fault("begin own integer |" + word + "; end");
            checker.fault("begin switch |" + word + " := l; l: end");
            checker.fault("begin procedure p(|" + word + "); ; end");
            checker.fault("begin goto |" + word + "; end");
            checker.fault("begin for |" + word + " := 1 do end");
        }
    }

    private static void nearlyWordsAreNames(Checker checker) {
        checker.sentence("words that are no names");
        for (String word : WORDS) {
            String shorter = word.substring(0, word.length() - 1);
            for (String name : new String[] {shorter, word + "a", word + "0", "q" + word, word + "z"}) {
                if (name.length() <= 8) {
                    checker.fine("begin own integer " + name + "; " + name + " := 1 end");
                } else {
                    checker.fault("begin own integer |" + name + "; " + name + " := 1 end");
                }
            }
        }
        // Nine letters are too many for a name, but not for the one word that has them.
        checker.fine("begin procedure p; ; end");
        checker.fault("begin |procedurf p; ; end");
        checker.fault("begin |brocedure p; ; end");
        checker.fault("begin |procedure1 p; ; end");
        checker.fault("begin |procedure0; ; end");
    }

    private static void atMostTheGreatestNumber(Checker checker) {
        checker.sentence("NUMBER: digits, at most 34359738367");
        String[] fine = {"0", "1", "9", "10", "00", "007", "2147483647", "2147483648", "4294967295", "4294967296",
            "4294967297", "9999999999", "34359738366", "34359738367", "034359738367", Checker.times(2000, "0"),
            Checker.times(2000, "0") + "34359738367"};
        for (String number : fine) {
            checker.fine("begin print(" + number + ") end");
        }
        String[] great = {"34359738368", "34359738370", "34359738377", "34359738400", "34359739367", "35000000000",
            "44359738367", "99999999999", "034359738368", "343597383670", Checker.times(2000, "0") + "34359738368"};
        for (String number : great) {
            checker.fault("begin print(|" + number + ") end");
        }
    }

    /** Values that are small again in 32, 35, 36, 63 and 64 bits. */
    private static void numbersThatComeRound(Checker checker) {
        checker.sentence("NUMBER: digits, at most 34359738367");
        String[] round = {"34359738369", "68719476736", "68719476737", "1099511627776", "9223372036854775807",
            "9223372036854775808", "9223372036854775809", "18446744073709551615", "18446744073709551616",
            "18446744073709551617", "36893488147419103232", "340282366920938463463374607431768211456",
            "1" + Checker.times(64, "0"), "1" + Checker.times(2800, "0"), Checker.times(2800, "9")};
        for (String number : round) {
            checker.fault("begin print(|" + number + ") end");
        }
    }

    private static void signsThatThereAre(Checker checker) {
        checker.sentence("signs + - * ^ ( ) [ ] , ; : := < <= = >= > #");
        for (String sign : "+ - * ^ div".split(" ")) {
            checker.fine("begin print(1 " + sign + " 2) end");
        }
        for (String sign : "< <= = >= > #".split(" ")) {
            checker.fine("begin boolean b; b := 1 " + sign + " 2 end");
            checker.fine("begin boolean b; b:=1" + sign + "2 end");
        }
        for (String sign : "|!= <|> =|= =|< =|> |:= |: ;|2 |, |) |] |( |[ #|= ^|^ *|*".split(" ")) {
            checker.fault("begin boolean b; b := 1" + sign + "2 end");
        }
    }

    private static void bytesThatBeginNone(Checker checker) {
        checker.sentence("a byte that begins none");
        String known = "abcdefghijklmnopqrstuvwxyz0123456789+-*^()[],;:<=># \n";
        for (int c = 0; c < 256; c++) {
            // Where the byte may stand, the fault is the one behind it.
            String text = "begin print(1" + (char) c + "?";
            boolean begins = known.indexOf(c) >= 0;
            int place = Checker.judge(new AlgolJudge(), text);
            if (!begins) {
                checker.due("judge() with byte " + c, place, 13);
            } else if (c == ' ' || c == '\n' || "0123456789+-*^<=>#)".indexOf(c) >= 0) {
                checker.due("judge() with byte " + c, place, 14);
            }
        }
    }

    private static void firstByteOfWhatIsTooLong(Checker checker) {
        checker.sentence("a name or number that is too long or great: its first byte");
        checker.fault("begin integer a, |abcdefghi; end");
        checker.fault("|abcdefghi");
        checker.fault("begin |abcdefghi := 34359738368 end");
        checker.fault("begin a := |34359738368 end");
        checker.fault("begin a := 1 + |343597383680 end");
        checker.fault("begin a := b |34359738368 end");
        checker.fault("begin print(|) abcdefghi");
        checker.fault("begin end |34359738368");
        checker.fault("begin end |abcdefghi");
    }

    private static void theEndIsHowManyBytesThereAre(Checker checker) {
        checker.sentence("if something is missing the end, that is how many bytes there are");
        for (String blanks : new String[] {"", " ", "\n", "   ", " \n ", Checker.times(2900, " ")}) {
            checker.fault(blanks + "|");
            checker.fault("begin" + blanks + "|");
            checker.fault("begin print(1" + blanks + "|");
            checker.fault("begin print(1)" + blanks + "|");
            checker.fault("begin begin end" + blanks + "|");
            checker.fault("begin x := y" + blanks + "|");
            checker.fault("begin x:" + blanks + "|");
        }
        checker.fault("begin " + Checker.times(2994, " ") + "|");
        checker.fault("begin " + Checker.times(2994, ";") + "|");
        checker.fault("begin " + Checker.times(2986, ";") + "abcdefgh|");
        checker.fault("begin print(" + Checker.times(2988, "0") + "|");
        checker.fault("begin print(" + Checker.times(1494, "1+") + "|");
        checker.fault("begin if true then " + Checker.times(2979, " ") + "a|:");
    }

    private static void asManyTokensAsBytes(Checker checker) {
        checker.sentence("at most 3000");
        checker.fine("begin" + Checker.times(2992, ";") + "end");
        checker.fault("begin" + Checker.times(2992, ";") + "en|");
        checker.fault("begin" + Checker.times(2994, ";") + "|?");
        checker.fault("|" + Checker.times(3000, "("));
        checker.fault("|" + Checker.times(3000, ";"));
        checker.fine("begin integer a;a:=a" + Checker.times(1488, "+a") + " end");
        checker.fine("begin integer a;" + Checker.times(596, "a:=a;") + " end");
        checker.fault("begin a|" + Checker.times(1496, "+a"));
    }
}

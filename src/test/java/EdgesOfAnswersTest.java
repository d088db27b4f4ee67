/** The boundary cases of the promises 4 to 7, and of what "Terms" says on how NAMES are numbered. */
public final class EdgesOfAnswersTest {
    private final Checker checker = new Checker();

    public static void main(String[] args) {
        EdgesOfAnswersTest test = new EdgesOfAnswersTest();
        test.theTextBeforeStays();
        test.theTextIsIt();
        test.emptyTapes();
        test.howManyNames();
        test.noneWithoutAText();
        test.numberedFromZero();
        test.declarationsThenLabels();
        test.beginsAsTheyBegin();
        test.parametersBeforeAllThatIsInIt();
        test.kindsAndTypes();
        test.dimensionsAndParameters();
        test.ownAndByValue();
        test.proceduresThatNamesAreDeclaredIn();
        test.noSuchName();
        test.anotherWhatComesFirst();
        test.firstByteOfAName();
        test.whereItIsDeclared();
        test.placesThatAreNone();
        test.lastPlaces();
        test.checker.finish();
    }

    /** What is due of all names of a text: for each its kind, type, count, mark and procedure. */
    private void told(String text, int[]... names) {
        AlgolJudge judge = checker.judged(text);
        checker.due("names() of " + text, judge.names(), names.length);
        for (int k = 0; k < names.length; k++) {
            for (int what = 0; what < 5; what++) {
                checker.due("tell(" + k + ", " + what + ") of " + text, judge.tell(k, what), names[k][what]);
            }
        }
        checker.due("tell behind the last name", judge.tell(names.length, 0), AlgolJudge.NONE);
    }

    private static int[] name(int... five) {
        return five;
    }

    private void theTextBeforeStays() {
        checker.sentence("its FAULT if it has one (the one before stays)");
        String[] faults = {"", "begin", "begin boolean q, r, s; q := r := s ? end", "begin nil end",
            "begin integer i, i; end", "begin integer a, b, c, d; a := b := c := true end", Checker.times(21, "begin "),
            "begin l: m: n: o: goto l; goto m; goto q end"};
        for (String fault : faults) {
            AlgolJudge judge = new AlgolJudge();
            checker.due("judge()", Checker.judge(judge, "begin own integer i; l: i := 1; goto l end"), AlgolJudge.NONE);
            Checker.judge(judge, fault);
            String behind = " behind the judge of " + fault;
            checker.due("names()" + behind, judge.names(), 2);
            checker.due("tell(0, 0)" + behind, judge.tell(0, 0), 1);
            checker.due("tell(0, 1)" + behind, judge.tell(0, 1), 1);
            checker.due("tell(0, 3)" + behind, judge.tell(0, 3), 1);
            checker.due("tell(1, 0)" + behind, judge.tell(1, 0), 5);
            checker.due("tell(2, 0)" + behind, judge.tell(2, 0), AlgolJudge.NONE);
            checker.due("means(24)" + behind, judge.means(24), 0);
            checker.due("means(37)" + behind, judge.means(37), 1);
            checker.due("means(6)" + behind, judge.means(6), -1);
        }
    }

    private void theTextIsIt() {
        checker.sentence("The TAPE as a text is judged: NONE, and THE TEXT is it");
        AlgolJudge judge = new AlgolJudge();
        checker.due("judge()", Checker.judge(judge, "begin own integer i, j; integer array a[1:2, 3:4]; a[i, j] := 1 end"),
            AlgolJudge.NONE);
        checker.due("names()", judge.names(), 3);
        checker.due("judge()", Checker.judge(judge, "begin boolean i; i := true end"), AlgolJudge.NONE);
        checker.due("names()", judge.names(), 1);
        int[] due = {1, 2, 0, 0, -1};
        for (int what = 0; what < 5; what++) {
            checker.due("tell(0, " + what + ")", judge.tell(0, what), due[what]);
            checker.due("tell(1, " + what + ")", judge.tell(1, what), AlgolJudge.NONE);
        }
        for (int place = 0; place < 80; place++) {
            checker.due("means(" + place + ")", judge.means(place), place == 17 ? 0 : -1);
        }
        checker.due("judge()", Checker.judge(judge, "begin procedure p(x, y); value x; integer x, y; ; end"), AlgolJudge.NONE);
        checker.due("tell(0, 0)", judge.tell(0, 0), 3);
        checker.due("tell(0, 2)", judge.tell(0, 2), 2);
        checker.due("tell(1, 3)", judge.tell(1, 3), 1);
        checker.due("judge()", Checker.judge(judge, "begin integer i, j, k; end"), AlgolJudge.NONE);
        for (int k = 0; k < 3; k++) {
            for (int what = 0; what < 5; what++) {
                checker.due("tell(" + k + ", " + what + ")", judge.tell(k, what), what < 2 ? 1 : what < 4 ? 0 : -1);
            }
        }
        checker.due("judge()", Checker.judge(judge, "begin end"), AlgolJudge.NONE);
        checker.due("names()", judge.names(), 0);
        checker.due("tell(0, 0)", judge.tell(0, 0), AlgolJudge.NONE);
        checker.due("means(17)", judge.means(17), -1);
    }

    private void emptyTapes() {
        checker.sentence("The TAPE as a text is judged");
        AlgolJudge judge = new AlgolJudge();
        checker.due("judge() of no bytes", judge.judge(), 0);
        checker.due("judge() of no bytes again", judge.judge(), 0);
        Checker.judge(judge, "begin l: end");
        checker.due("judge() of no bytes behind a text", judge.judge(), 0);
        checker.due("names()", judge.names(), 1);
        checker.fault(" |");
        checker.fault(Checker.times(3000, " ") + "|");
        checker.fault(Checker.times(3000, "\n") + "|");
    }

    private void howManyNames() {
        checker.sentence("How many names THE TEXT declares");
        int[] counts = {0, 1, 2, 59, 60};
        for (int count : counts) {
            String text = count == 0 ? "begin end" : "begin integer " + Checker.names("a", count) + "; end";
            checker.due("names() of " + text, checker.judged(text).names(), count);
        }
        checker.due("names()", checker.judged("begin integer a; a := a + a; begin a := a end end").names(), 1);
        checker.due("names()", checker.judged("begin a: begin a: begin a: end end end").names(), 3);
        checker.due("names()", checker.judged("begin procedure p(p); value p; integer p; begin integer p; end; end").names(), 3);
    }

    private void noneWithoutAText() {
        checker.sentence("NONE without one");
        AlgolJudge judge = new AlgolJudge();
        checker.due("names()", judge.names(), AlgolJudge.NONE);
        Checker.judge(judge, "begin integer a;");
        checker.due("names()", judge.names(), AlgolJudge.NONE);
        Checker.judge(judge, "begin integer a, a; end");
        checker.due("names()", judge.names(), AlgolJudge.NONE);
        Checker.judge(judge, "begin end");
        checker.due("names()", judge.names(), 0);
    }

    private void numberedFromZero() {
        checker.sentence("NAMES of a text without a fault that are DECLARED are numbered from 0");
        AlgolJudge judge = checker.judged("begin integer i; boolean b; i := 1; b := true end");
        checker.due("tell(-1, 1)", judge.tell(-1, 1), AlgolJudge.NONE);
        checker.due("tell(0, 1)", judge.tell(0, 1), 1);
        checker.due("tell(1, 1)", judge.tell(1, 1), 2);
        checker.due("tell(2, 1)", judge.tell(2, 1), AlgolJudge.NONE);
        checker.due("means(28)", judge.means(28), 0);
        checker.due("means(36)", judge.means(36), 1);
    }

    private void declarationsThenLabels() {
        checker.sentence("in each first its declarations, then the labels of its statements, as they stand");
        checker.meant("begin boolean b; integer i, j; own integer k; integer array a, c[1:2], d[1:2]; procedure p; ;"
            + " switch s := {9}l; l: {0}b := true; {1}i := {2}j := {3}k := 1; {4}a[1] := {5}c[1] := {6}d[1]; m: n: {7}p;"
            + " goto {8}s[1]; goto {9}l; goto {10}m; goto {11}n end");
        // A label that stands in front of what is in a BEGIN, and one behind it, come both before that.
        checker.meant("begin l: begin integer i; m: goto {3}m; {2}i := 1; goto {0}l; goto {1}n end; n: end");
    }

    private void beginsAsTheyBegin() {
        checker.sentence("BEGINS as they begin");
        checker.meant("begin integer a; begin integer b; begin integer c; {2}c := {1}b := {0}a end end; begin integer d;"
            + " {3}d := {0}a end end");
        checker.meant("begin if true then begin integer a; {0}a := 1 end else begin integer b; {1}b := 1 end end");
        checker.meant("begin integer i; for {0}i := 1 do begin integer a; {1}a := 1 end; begin end; begin integer b; {2}b := 1 end end");
        checker.meant("begin procedure p; begin integer a; {3}a := 1 end; integer b; procedure q; begin integer c; {4}c := {1}b end;"
            + " begin integer d; {5}d := 1; {0}p; {2}q end end");
    }

    private void parametersBeforeAllThatIsInIt() {
        checker.sentence("then, before all that is in it (its own procedures' bodies, too), the parameters of its procedures, one"
            + " procedure after the other, as they stand in the heads");
        checker.meant("begin procedure p(a, b); integer b, a; begin integer c; {4}a := {5}b := {7}c end; integer i;"
            + " procedure q(d); integer d; begin integer e; {6}d := {8}e; {1}i := 1 end; l: {0}p(1, 2); {2}q(3); goto {3}l end");
        // A BEGIN in a procedure numbers its own procedures' parameters when its turn comes.
        checker.meant("begin procedure p(a); integer a; begin procedure q(b); integer b; begin integer c; {6}c := {5}b := {2}a end;"
            + " integer d; {4}d := 1; {3}q(1) end; procedure r; begin integer e; {7}e := 1 end; {0}p(1); {1}r end");
        checker.meant("begin begin procedure p(a); integer a; begin integer b; {3}b := {2}a end; begin integer c; {4}c := 1; {0}p(1)"
            + " end; l: goto {1}l end; begin integer d; {5}d := 1 end end");
        // Those of a procedure whose body is no BEGIN, and of one without parameters.
        checker.meant("begin procedure p(a); integer a; {3}a := 1; procedure q; ; procedure r(b); integer b; {4}b := 1; {0}p(1); {1}q;"
            + " {2}r(1) end");
    }

    private void kindsAndTypes() {
        checker.sentence("what 0: 1 variable, 2 array, 3 procedure, 4 switch, 5 label, 6 parameter that is integer or boolean, 7 array"
            + " as one, 8 label as one; 1: its TYPE (of an array its elements'), 1 integer, 2 boolean, 0 none");
        told("begin integer a; boolean b; integer array c[1:2]; boolean array d[1:2]; procedure e; ; integer procedure f; ;"
            + " boolean procedure g; ; switch h := i; i: end",
            name(1, 1, 0, 0, -1), name(1, 2, 0, 0, -1), name(2, 1, 1, 0, -1), name(2, 2, 1, 0, -1), name(3, 0, 0, 0, -1),
            name(3, 1, 0, 0, -1), name(3, 2, 0, 0, -1), name(4, 0, 0, 0, -1), name(5, 0, 0, 0, -1));
        told("begin procedure p(a, b, c, d, e); integer a; boolean b; integer array c; boolean array d; label e; ; end",
            name(3, 0, 5, 0, -1), name(6, 1, 0, 0, 0), name(6, 2, 0, 0, 0), name(7, 1, 0, 0, 0), name(7, 2, 0, 0, 0),
            name(8, 0, 0, 0, 0));
    }

    private void dimensionsAndParameters() {
        checker.sentence("2: dimensions of an array (parameters 0), parameters of a procedure, else 0");
        told("begin integer array a[1:2], b, c[1:2, 3:4], d[1:2]; boolean array e, f[1:2], g, h[1:2, 3:4]; end",
            name(2, 1, 1, 0, -1), name(2, 1, 2, 0, -1), name(2, 1, 2, 0, -1), name(2, 1, 1, 0, -1), name(2, 2, 1, 0, -1),
            name(2, 2, 1, 0, -1), name(2, 2, 2, 0, -1), name(2, 2, 2, 0, -1));
        told("begin procedure p; ; integer procedure q(a); integer array a; a[1] := a[1, 2];"
            + " boolean procedure r(a, b, c, d, e, f); integer a, b, c, d, e, f; ; end",
            name(3, 0, 0, 0, -1), name(3, 1, 1, 0, -1), name(3, 2, 6, 0, -1), name(7, 1, 0, 0, 1), name(6, 1, 0, 0, 2),
            name(6, 1, 0, 0, 2), name(6, 1, 0, 0, 2), name(6, 1, 0, 0, 2), name(6, 1, 0, 0, 2), name(6, 1, 0, 0, 2));
        // Arrays in a bound's own brackets, and names of other kinds between, change nothing.
        told("begin integer array a[1:2]; begin integer array b, c[a[1]:a[2], 3:4]; integer i; boolean array d[1:2]; end end",
            name(2, 1, 1, 0, -1), name(2, 1, 2, 0, -1), name(2, 1, 2, 0, -1), name(1, 1, 0, 0, -1), name(2, 2, 1, 0, -1));
    }

    private void ownAndByValue() {
        checker.sentence("3: 1 if it is own, or a parameter by value, else 0");
        told("begin own integer a, b; integer c; own boolean d; boolean e; end",
            name(1, 1, 0, 1, -1), name(1, 1, 0, 1, -1), name(1, 1, 0, 0, -1), name(1, 2, 0, 1, -1), name(1, 2, 0, 0, -1));
        told("begin procedure p(a, b, c, d); value d, a; integer a, b; boolean c, d; ; end",
            name(3, 0, 4, 0, -1), name(6, 1, 0, 1, 0), name(6, 1, 0, 0, 0), name(6, 2, 0, 0, 0), name(6, 2, 0, 1, 0));
    }

    private void proceduresThatNamesAreDeclaredIn() {
        checker.sentence("4: the number of the procedure that it is declared in, -1 in none");
        told("begin integer i; begin integer j; end end", name(1, 1, 0, 0, -1), name(1, 1, 0, 0, -1));
        told("begin procedure p(a); integer a; begin integer b; begin integer c; l: end end; begin integer d; end end",
            name(3, 0, 1, 0, -1), name(6, 1, 0, 0, 0), name(1, 1, 0, 0, 0), name(1, 1, 0, 0, 0), name(5, 0, 0, 0, 0),
            name(1, 1, 0, 0, -1));
        told("begin integer i; procedure p; begin procedure q(a); label a; begin integer b; procedure r; begin c: end; end; d: end; end",
            name(1, 1, 0, 0, -1), name(3, 0, 0, 0, -1), name(3, 0, 1, 0, 1), name(5, 0, 0, 0, 1), name(8, 0, 0, 0, 2),
            name(1, 1, 0, 0, 2), name(3, 0, 0, 0, 2), name(5, 0, 0, 0, 6));
        told("begin procedure p; if true then begin switch s := l; l: end; procedure q; ; end",
            name(3, 0, 0, 0, -1), name(3, 0, 0, 0, -1), name(4, 0, 0, 0, 0), name(5, 0, 0, 0, 0));
    }

    private void noSuchName() {
        checker.sentence("NONE if there is none");
        AlgolJudge judge = checker.judged("begin integer i, j; l: end");
        for (int what = 0; what < 5; what++) {
            for (int k : new int[] {-1, 3, 4, 1499, 1500, 1501, 1502, 3000, Integer.MIN_VALUE, Integer.MAX_VALUE}) {
                checker.due("tell(" + k + ", " + what + ")", judge.tell(k, what), AlgolJudge.NONE);
            }
        }
        checker.due("tell(0, 0)", judge.tell(0, 0), 1);
        checker.due("tell(2, 0)", judge.tell(2, 0), 5);
        AlgolJudge empty = checker.judged("begin end");
        checker.due("tell(0, 0) of a text without names", empty.tell(0, 0), AlgolJudge.NONE);
    }

    private void anotherWhatComesFirst() {
        checker.sentence("REFUSED for another what, first");
        AlgolJudge without = new AlgolJudge();
        AlgolJudge judge = checker.judged("begin integer i; end");
        for (int what : new int[] {-1, 5, 6, 256, -256, Integer.MIN_VALUE, Integer.MAX_VALUE}) {
            for (int k : new int[] {-1, 0, 1, Integer.MIN_VALUE, Integer.MAX_VALUE}) {
                checker.due("tell(" + k + ", " + what + ") without a text", without.tell(k, what), AlgolJudge.REFUSED);
                checker.due("tell(" + k + ", " + what + ")", judge.tell(k, what), AlgolJudge.REFUSED);
            }
        }
        checker.due("tell(0, 4)", judge.tell(0, 4), -1);
        checker.due("tell(1, 4)", judge.tell(1, 4), AlgolJudge.NONE);
    }

    private void firstByteOfAName() {
        checker.sentence("The number of the name that the NAME at a place of THE TEXT, its first byte's, means");
        checker.meant("begin integer abcdefgh, b; {0}abcdefgh := {1}b; {1}b:={0}abcdefgh+{1}b\n end");
        checker.meant("begin integer b1; begin\n{0}b1:={0}b1-{0}b1 end end");
        checker.sentence("-1 if no NAME begins there (a word is none)");
        checker.meant("begin integer i; boolean b; for {0}i := 1 step 2 until 3, 4 while {1}b and not true or false do"
            + " if {1}b then print({0}i div 2) else end");
    }

    private void whereItIsDeclared() {
        checker.sentence("or it is one where it is declared, given as value or specified");
        checker.meant("begin integer i; own boolean b; integer array a, c[1:2]; procedure p(x, y, z); value x, y; integer x, y;"
            + " boolean array z; ; integer procedure q(x); label x; goto {11}x; switch s := {7}l; l: end");
    }

    private void placesThatAreNone() {
        checker.sentence("NONE without a text, or for a place below 0 or from 3000 on");
        AlgolJudge judge = checker.judged("begin l: goto l end");
        AlgolJudge without = new AlgolJudge();
        for (int place : new int[] {-1, -2, 3000, 3001, Integer.MIN_VALUE, Integer.MAX_VALUE}) {
            checker.due("means(" + place + ")", judge.means(place), AlgolJudge.NONE);
            checker.due("means(" + place + ") without a text", without.means(place), AlgolJudge.NONE);
        }
        for (int place : new int[] {0, 1, 6, 18, 19, 20, 2998, 2999}) {
            checker.due("means(" + place + ")", judge.means(place), -1);
            checker.due("means(" + place + ") without a text", without.means(place), AlgolJudge.NONE);
        }
        checker.due("means(14)", judge.means(14), 0);
        checker.due("means(14) without a text", without.means(14), AlgolJudge.NONE);
    }

    private void lastPlaces() {
        checker.sentence("the NAME at a place of THE TEXT, its first byte's");
        AlgolJudge judge = checker.judged("begin l:" + Checker.times(2982, ";") + "goto l end");
        checker.due("means(2995)", judge.means(2995), 0);
        checker.due("means(2999)", judge.means(2999), -1);
        checker.due("means(3000)", judge.means(3000), AlgolJudge.NONE);
        checker.due("judge() of a shorter text", Checker.judge(judge, "begin l: goto l end"), AlgolJudge.NONE);
        checker.due("means(14)", judge.means(14), 0);
        checker.due("means(2995) of a shorter text", judge.means(2995), -1);
    }
}

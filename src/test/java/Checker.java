import java.nio.charset.StandardCharsets;
import java.util.Arrays;

/** Counts the calls whose answer is not the one that is due, and prints them. */
final class Checker {
    private int calls = 0;
    private int wrong = 0;

    void due(String call, int got, int want) {
        calls++;
        if (got != want) {
            wrong++;
            System.out.println(call + " answered " + got + ", due is " + want);
        }
    }

    /** Feeds a text to an object, twenty bytes a call, and cuts the tape behind it. */
    static void feed(AlgolJudge judge, String text) {
        byte[] bytes = text.getBytes(StandardCharsets.ISO_8859_1);
        byte[] row = Arrays.copyOf(bytes, (bytes.length + 19) / 20 * 20);
        for (int i = 0; i < row.length; i += 20) {
            judge.feed(four(row, i), four(row, i + 4), four(row, i + 8), four(row, i + 12), four(row, i + 16));
        }
        judge.end(bytes.length);
    }

    private static int four(byte[] row, int at) {
        return (row[at] & 255) << 24 | (row[at + 1] & 255) << 16 | (row[at + 2] & 255) << 8 | row[at + 3] & 255;
    }

    static int judge(AlgolJudge judge, String text) {
        feed(judge, text);
        return judge.judge();
    }

    /** A new object that has judged a text. */
    AlgolJudge judged(String text) {
        AlgolJudge judge = new AlgolJudge();
        due("judge() of " + text, judge(judge, text), AlgolJudge.NONE);
        return judge;
    }

    /** A text without a fault. */
    void fine(String text) {
        judged(text);
    }

    /** A text whose fault is where the | stands, which is no part of it. */
    void fault(String marked) {
        int place = marked.indexOf('|');
        String text = marked.substring(0, place) + marked.substring(place + 1);
        due("judge() of " + marked, judge(new AlgolJudge(), text), place);
    }

    /** A part again and again. */
    static String times(int count, String part) {
        return part.repeat(count);
    }

    /** Names with a number each, with commas between. */
    static String names(String letter, int count) {
        StringBuilder list = new StringBuilder();
        for (int i = 1; i <= count; i++) {
            list.append(i == 1 ? "" : ",").append(letter).append(i);
        }
        return list.toString();
    }

    void finish() {
        System.out.println(calls + " calls, " + wrong + " wrong");
        if (wrong > 0) {
            System.exit(1);
        }
    }
}

import java.nio.charset.StandardCharsets;
import java.util.Arrays;

/** Counts the calls whose answer is not the one that is due, and prints them. */
final class Checker {
    private int calls = 0;
    private int wrong = 0;
    private String sentence = "";

    /** The words of the document that the next calls are about: a wrong answer is printed with them. */
    void sentence(String words) {
        sentence = "\"" + words + "\": ";
    }

    void due(String call, int got, int want) {
        calls++;
        if (got != want) {
            wrong++;
            System.out.println(sentence + shortened(call) + " answered " + got + ", due is " + want);
        }
    }

    private static String shortened(String call) {
        int size = call.length();
        return size <= 400 ? call : call.substring(0, 200) + " .. " + call.substring(size - 200);
    }

    /** Feeds a text to an object, twenty bytes a call, and cuts the tape behind it. */
    static void feed(AlgolJudge judge, String text) {
        byte[] bytes = text.getBytes(StandardCharsets.ISO_8859_1);
        if (bytes.length > 3000) {
            throw new IllegalArgumentException("a text of " + bytes.length + " bytes");
        }
        byte[] row = Arrays.copyOf(bytes, (bytes.length + 19) / 20 * 20);
        for (int i = 0; i < row.length; i += 20) {
            judge.feed(four(row, i), four(row, i + 4), four(row, i + 8), four(row, i + 12), four(row, i + 16));
        }
        judge.end(bytes.length);
    }

    private static int four(byte[] row, int at) {
        return (row[at] & 255) << 24 | (row[at + 1] & 255) << 16 | (row[at + 2] & 255) << 8 | row[at + 3] & 255;
    }

    static int judge(AlgolJudge judge, String text) {
        feed(judge, text);
        return judge.judge();
    }

    /** A new object that has judged a text. */
    AlgolJudge judged(String text) {
        AlgolJudge judge = new AlgolJudge();
        due("judge() of " + text, judge(judge, text), AlgolJudge.NONE);
        return judge;
    }

    /** A text without a fault. */
    void fine(String text) {
        judged(text);
    }

    /** A text whose fault is where the | stands, which is no part of it. */
    void fault(String marked) {
        int place = marked.indexOf('|');
        String text = marked.substring(0, place) + marked.substring(place + 1);
        due("judge() of " + marked, judge(new AlgolJudge(), text), place);
    }

    /** A text with {number} in front of each NAME that means one: at the other places -1 is due. */
    void meant(String marked) {
        StringBuilder text = new StringBuilder();
        int[] due = new int[3000];
        Arrays.fill(due, -1);
        for (int i = 0; i < marked.length(); i++) {
            if (marked.charAt(i) == '{') {
                int close = marked.indexOf('}', i);
                due[text.length()] = Integer.parseInt(marked.substring(i + 1, close));
                i = close;
            } else {
                text.append(marked.charAt(i));
            }
        }
        AlgolJudge judge = null;
        for (int place = 0; place < text.length() + 20; place++) {
            // An object is made for 512 calls.
            judge = place % 300 == 0 ? judged(text.toString()) : judge;
            due("means(" + place + ") of " + marked, judge.means(place), due[place]);
        }
    }

    /** A part again and again. */
    static String times(int count, String part) {
        return part.repeat(count);
    }

    /** Names with a number each, with commas between. */
    static String names(String letter, int count) {
        StringBuilder list = new StringBuilder();
        for (int i = 1; i <= count; i++) {
            list.append(i == 1 ? "" : ",").append(letter).append(i);
        }
        return list.toString();
    }

    void finish() {
        System.out.println(calls + " calls, " + wrong + " wrong");
        if (wrong > 0) {
            System.exit(1);
        }
    }
}

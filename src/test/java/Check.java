import java.util.ArrayList;
import java.util.List;

/** What the tests share: answers compared with those that are due, and texts put in and taken out. */
final class Check {
    static final int NONE = BalconyCensus.NONE;
    static final int BAD = BalconyCensus.BAD;
    static final int REFUSED = BalconyCensus.REFUSED;
    static final int NOTHING = BalconyCensus.NOTHING;

    private static int wrong = 0;
    private static int looked = 0;
    /** The sentences of the document for which answers were looked at: each a section and its words. */
    static final List<String[]> SENTENCES = new ArrayList<>();
    private static String sentence = "";
    private static int lookedBefore = 0;

    private Check() {
    }

    /** Names the sentence of the document for which the next answers are looked at. */
    static void says(String section, String words) {
        endSentence();
        SENTENCES.add(new String[] {section, words});
        sentence = section + ", '" + words + "': ";
        lookedBefore = looked;
    }

    /** A sentence for which no answer was looked at would be a test that cannot fail. */
    static void endSentence() {
        if (!sentence.isEmpty() && looked == lookedBefore) {
            wrong(sentence + "no answer was looked at");
        }
        sentence = "";
    }

    static void wrong(String what) {
        wrong++;
        System.out.println(what);
    }

    static void due(String call, long got, long want) {
        looked++;
        if (got != want) {
            wrong(sentence + call + " answered " + got + ", due is " + want);
        }
    }

    static void dueNumber(String call, double got, double want) {
        looked++;
        if (Double.compare(got, want) != 0) {
            wrong(sentence + call + " answered " + got + ", due is " + want);
        }
    }

    static void dueText(String call, String got, String want) {
        looked++;
        if (!got.equals(want)) {
            wrong(sentence + call + " answered '" + got + "', due is '" + want + "'");
        }
    }

    /** Looks at a refusal: the answer, its reason and detail, and that nothing stands behind it. */
    static void dueRefusal(BalconyCensus x, String call, int got, int reason, int detail) {
        due(call, got, REFUSED);
        dueReasons(x, call, reason, detail, NOTHING, NOTHING);
    }

    static void dueReasons(BalconyCensus x, String call, int reason, int detail, int behind, int detailBehind) {
        due(call + ": reason(0, false)", x.reason(0, false), reason);
        due(call + ": reason(0, true)", x.reason(0, true), detail);
        due(call + ": reason(1, false)", x.reason(1, false), behind);
        due(call + ": reason(1, true)", x.reason(1, true), detailBehind);
    }

    static void type(BalconyCensus x, String text) {
        for (int index = 0; index < text.length(); index++) {
            due("append('" + text.charAt(index) + "') of '" + text + "'", x.append(text.charAt(index)), index + 1);
        }
    }

    static int readText(BalconyCensus x, String text) {
        type(x, text);
        int answer = x.read();
        due("characters behind read of '" + text + "'", x.account(12), 0);
        return answer;
    }

    static String lineOf(BalconyCensus x, int length) {
        StringBuilder line = new StringBuilder();
        for (int index = 0; index < length; index++) {
            line.append((char) x.written(index));
        }
        due("written(" + length + ")", x.written(length), NONE);
        return line.toString();
    }

    /** All that changes can change, as it can be seen from outside. */
    static String sightOf(BalconyCensus x) {
        StringBuilder sight = new StringBuilder();
        for (int balcony = 0; balcony < 12; balcony++) {
            for (int what = 0; what < 8; what++) {
                sight.append(x.balconyOf(balcony, what)).append(' ');
            }
            for (int other = 0; other < 12; other++) {
                sight.append(x.greeted(balcony, other)).append(x.feud(balcony, other)).append(' ');
            }
        }
        for (int number = 0; number < 6; number++) {
            for (int what = 0; what < 4; what++) {
                sight.append(x.catOf(number, what)).append(' ');
                sight.append(x.lineOf(number, what)).append(' ');
            }
        }
        for (int what = 0; what < 12; what++) {
            sight.append(x.account(what)).append(' ');
        }
        return sight.toString();
    }

    /** The same in 144 calls, so that an object can be seen three times in its life of 512 calls. */
    static String shortSightOf(BalconyCensus x) {
        StringBuilder sight = new StringBuilder();
        for (int balcony = 0; balcony < 12; balcony++) {
            for (int what = 0; what < 8; what++) {
                sight.append(x.balconyOf(balcony, what)).append(' ');
            }
        }
        for (int number = 0; number < 6; number++) {
            for (int what = 0; what < 3; what++) {
                sight.append(x.catOf(number, what)).append(' ');
                sight.append(x.lineOf(number, what)).append(' ');
            }
        }
        for (int what = 0; what < 12; what++) {
            sight.append(x.account(what)).append(' ');
        }
        return sight.toString();
    }

    static void end() {
        endSentence();
        System.out.println(looked + " answers looked at, " + wrong + " not as due");
        if (wrong != 0 || looked == 0) {
            System.exit(1);
        }
    }
}

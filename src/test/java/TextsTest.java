/** Promises 3, 12, 13 and 14: the input, its commands, faults by place, and reasons. */
public final class TextsTest {
    private static final int BAD = Check.BAD;
    private static final int REFUSED = Check.REFUSED;
    private static final int NOTHING = Check.NOTHING;

    public static void main(String[] args) {
        promise3Append();
        promise12Commands();
        promise12AllOrNone();
        promise12OneChange();
        promise12LongTexts();
        promise13Faults();
        promise13Kept();
        promise14Reasons();
        promise14Behind();
        Check.end();
    }

    private static void promise3Append() {
        BalconyCensus x = new BalconyCensus();
        Check.due("append(31)", x.append((char) 31), BAD);
        Check.due("append(127)", x.append((char) 127), BAD);
        Check.due("append(0)", x.append((char) 0), BAD);
        Check.due("append(65535)", x.append((char) 65535), BAD);
        Check.due("append(32)", x.append((char) 32), 1);
        Check.due("append(126)", x.append((char) 126), 2);
        for (int length = 3; length <= 60; length++) {
            Check.due("append to " + length, x.append('d'), length);
        }
        Check.due("append to 61", x.append('d'), BAD);
        Check.due("characters", x.account(12), 60);
        x.read();
        Check.due("characters behind read", x.account(12), 0);
        Check.due("append behind read", x.append('d'), 1);
    }

    private static void promise12Commands() {
        BalconyCensus x = new BalconyCensus();
        Check.due("plant", Check.readText(x, "plant 11 7"), 1);
        Check.due("plants of 11", x.balconyOf(11, 0), 7);
        Check.due("bear", Check.readText(x, "bear 03 9"), 1);
        Check.due("tolerance of 3", x.balconyOf(3, 1), 9);
        Check.due("hang", Check.readText(x, "hang 7 11 4"), 1);
        Check.due("line", x.lineOf(0, 2), 4);
        Check.due("greet", Check.readText(x, "greet 11 3"), 1);
        Check.due("greeted", x.greeted(11, 3), 1);
        Check.due("not greeted", x.greeted(3, 11), 0);
        Check.due("give", Check.readText(x, "give 11 7 5"), 1);
        Check.due("plants of 7", x.balconyOf(7, 0), 5);
        Check.due("cat", Check.readText(x, "cat 10"), 1);
        Check.due("cat on 10", x.balconyOf(10, 2), 0);
        Check.due("swap", Check.readText(x, "swap 10 9"), 1);
        Check.due("cat on 9", x.balconyOf(9, 2), 0);
        Check.due("day", Check.readText(x, "day"), 1);
        Check.due("days", x.account(5), 1);
        Check.due("several", Check.readText(x, "day;cat 1;swap 9 1;bear 3 0;day;day"), 6);
        Check.due("cat on 1", x.balconyOf(1, 2), 0);
        Check.due("days", x.account(5), 4);
    }

    private static void promise12AllOrNone() {
        BalconyCensus x = new BalconyCensus();
        x.plant(0, 3);
        x.cat(0);
        String before = Check.sightOf(x);
        Check.due("refused", Check.readText(x, "plant 1 4;cat 1;day;plant 1 5"), REFUSED);
        Check.dueReasons(x, "refused", 10, 3, 4, 5);
        Check.dueText("all behind a refused text", Check.sightOf(x), before);
        Check.due("other code", Check.readText(x, "day;hang 0 12 3;cat 0"), REFUSED);
        Check.dueReasons(x, "other code", 11, 1, NOTHING, NOTHING);
        Check.due("out of range", Check.readText(x, "plant 0 0"), REFUSED);
        Check.dueReasons(x, "out of range", 11, 0, NOTHING, NOTHING);
        Check.due("hang out of range", Check.readText(x, "day;day;hang 0 1 0;plant 99 1"), REFUSED);
        Check.dueReasons(x, "hang out of range", 11, 2, NOTHING, NOTHING);
        Check.due("first refused, then other code", Check.readText(x, "cat 0;cat 12"), REFUSED);
        Check.dueReasons(x, "first refused, then other code", 10, 0, 8, 0);
        Check.due("first other code, then refused", Check.readText(x, "cat 12;cat 0"), REFUSED);
        Check.dueReasons(x, "first other code, then refused", 11, 0, NOTHING, NOTHING);
        Check.due("the fault comes first", Check.readText(x, "cat 0;cat 12;"), BAD);
        Check.dueText("all behind refused texts", Check.sightOf(x), before);
        Check.due("changes", x.account(13), 2);
    }

    private static void promise12OneChange() {
        BalconyCensus x = new BalconyCensus();
        x.plant(5, 1);
        String before = Check.sightOf(x);
        Check.due("read", Check.readText(x, "plant 5 2;cat 5;day;greet 1 2"), 4);
        Check.due("changes", x.account(13), 2);
        Check.due("undo()", x.undo(), 1);
        Check.dueText("all behind undo", Check.sightOf(x), before);
        Check.due("characters behind undo", x.account(12), 0);
    }

    private static void promise12LongTexts() {
        BalconyCensus x = new BalconyCensus();
        StringBuilder days = new StringBuilder("day");
        for (int number = 1; number < 15; number++) {
            days.append(";day");
        }
        Check.due("15 days", Check.readText(x, days.toString()), 15);
        Check.due("days", x.account(5), 15);
        Check.due("15 days and a sign more", Check.readText(x, days.append(';').toString()), BAD);
        Check.due("fault", x.fault(), 60);
        Check.due("60 characters", Check.readText(x, "plant 00 1;plant 01 1;plant 02 1;plant 03 1;plant 04 1;day;d"), BAD);
        Check.due("fault", x.fault(), 60);
    }

    private static void dueFault(String text, int position) {
        BalconyCensus x = new BalconyCensus();
        Check.due("fault() of a new object", x.fault(), NOTHING);
        Check.due("read of '" + text + "'", Check.readText(x, text), BAD);
        Check.due("fault of '" + text + "'", x.fault(), position);
    }

    private static void promise13Faults() {
        dueFault("", 0);
        dueFault(" ", 0);
        dueFault("x", 0);
        dueFault("Plant 1 1", 0);
        dueFault(";day", 0);
        dueFault("gift 1 2", 2);
        dueFault("gr", 2);
        dueFault("gree 1 2", 4);
        dueFault("gx", 1);
        dueFault("plan", 4);
        dueFault("plant", 5);
        dueFault("plant ", 6);
        dueFault("plant  1 1", 6);
        dueFault("plant 1", 7);
        dueFault("plant 1 ", 8);
        dueFault("plant 123", 8);
        dueFault("plant 12;", 8);
        dueFault("plant 1 12", 9);
        dueFault("plant 1 -", 8);
        dueFault("plant -1 1", 6);
        dueFault("bear 1 2 3", 8);
        dueFault("hang 1 2", 8);
        dueFault("hang 1 2;day", 8);
        dueFault("hang 1 2 10", 10);
        dueFault("hang 12 12 ", 11);
        dueFault("greet 1", 7);
        dueFault("greet 1 2 3", 9);
        dueFault("greet 1 234", 10);
        dueFault("give 1 2", 8);
        dueFault("give 10 11 x", 11);
        dueFault("cat", 3);
        dueFault("cat 1 1", 5);
        dueFault("cat 123", 6);
        dueFault("cat x", 4);
        dueFault("swap 1  2", 7);
        dueFault("swap 1 2 ", 8);
        dueFault("day ", 3);
        dueFault("days", 3);
        dueFault("day;", 4);
        dueFault("day;;day", 4);
        dueFault("day; day", 4);
        dueFault("day;da", 6);
        dueFault("day;dax", 6);
        dueFault("cat 1;cat 2;cow", 13);
    }

    private static void promise13Kept() {
        BalconyCensus x = new BalconyCensus();
        Check.readText(x, "days");
        Check.readText(x, "day");
        Check.due("fault behind a good text", x.fault(), 3);
        Check.readText(x, "cat 12");
        Check.due("fault behind a refused text", x.fault(), 3);
        x.undo();
        x.clear();
        Check.due("fault behind clear", x.fault(), 3);
        Check.readText(x, "cow");
        Check.due("fault of the latest", x.fault(), 1);
        Check.due("reason is not of the fault", x.reason(0, false), 11);
        Check.readText(x, "plant 1 1;day");
        Check.readText(x, "plant 1");
        Check.due("fault at the end, where an earlier text went on", x.fault(), 7);
        Check.readText(x, "plant 1 1;da");
        Check.due("fault at the end of a word, where an earlier text went on", x.fault(), 12);
    }

    private static void promise14Reasons() {
        BalconyCensus x = new BalconyCensus();
        Check.dueReasons(x, "new", NOTHING, NOTHING, NOTHING, NOTHING);
        Check.due("reason(2, false)", x.reason(2, false), BAD);
        Check.due("reason(-1, true)", x.reason(-1, true), BAD);
        x.plant(12, 1);
        x.plant(0, 0);
        x.undo();
        x.restore();
        Check.dueReasons(x, "errors that are not refusals", NOTHING, NOTHING, NOTHING, NOTHING);
        Check.dueRefusal(x, "greet(0, 0)", x.greet(0, 0), 2, 0);
        x.plant(0, 5);
        x.plant(12, 5);
        x.save();
        x.undo();
        x.restore();
        x.clear();
        Check.dueReasons(x, "kept", 2, 0, NOTHING, NOTHING);
        Check.due("reason(2, true)", x.reason(2, true), BAD);
    }

    private static void promise14Behind() {
        BalconyCensus x = new BalconyCensus();
        x.plant(4, 5);
        Check.due("they feud", Check.readText(x, "day;greet 4 0"), REFUSED);
        Check.dueReasons(x, "they feud", 10, 1, 5, 4);
        Check.due("read with a fault", Check.readText(x, "da"), BAD);
        Check.due("read of a good text", Check.readText(x, "day"), 1);
        Check.dueReasons(x, "kept", 10, 1, 5, 4);
        Check.dueRefusal(x, "bear(0, 3)", x.bear(0, 3), 3, 3);
        Check.due("cats of the text", Check.readText(x, "cat 1;cat 2;swap 8 9"), REFUSED);
        Check.dueReasons(x, "cats of the text", 10, 2, 9, 2);
        Check.due("other code", Check.readText(x, "swap 20 1"), REFUSED);
        Check.dueReasons(x, "other code", 11, 0, NOTHING, NOTHING);
        Check.due("line of the text", Check.readText(x, "hang 0 1 5;day;hang 1 0 5"), REFUSED);
        Check.dueReasons(x, "line of the text", 10, 2, 3, 4);
    }
}

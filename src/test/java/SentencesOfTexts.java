/** Texts, and the promises of append, read and fault, sentence by sentence. */
final class SentencesOfTexts {
    private static final int BAD = Check.BAD;
    private static final int REFUSED = Check.REFUSED;
    private static final int NOTHING = Check.NOTHING;

    private static final String DIGITS = "0123456789";
    /** No command is without one of these at its beginning. */
    private static final String FIRST_LETTERS = "bcdghps";

    private static int read(String text) {
        return Check.readText(new BalconyCensus(), text);
    }

    static void sixtyCharacters() {
        Check.says("Terms", "The input has at most 60 characters");
        BalconyCensus x = new BalconyCensus();
        for (int length = 1; length <= 60; length++) {
            Check.due("append, the " + length + "th", x.append(' '), length);
        }
        Check.due("append, the 61st", x.append(' '), BAD);
        Check.due("characters", x.account(12), 60);
        Check.due("read()", x.read(), BAD);
        Check.due("append behind read", x.append(' '), 1);
    }

    static void sixtyCharactersAreRead() {
        Check.says("Terms", "The input has at most 60 characters");
        BalconyCensus x = new BalconyCensus();
        String text = "plant 01 9;plant 02 9;plant 03 9;plant 05 9;bear 05 9;cat 11";
        Check.due("length of the text", text.length(), 60);
        Check.due("read of '" + text + "'", Check.readText(x, text), 6);
        Check.due("cat on 11", x.balconyOf(11, 2), 0);
    }

    static void codesFrom32To126() {
        Check.says("Terms", "with codes from 32 to 126.");
        for (int block = 0; block < 256; block++) {
            BalconyCensus x = new BalconyCensus();
            for (int code = block * 256; code < block * 256 + 256; code++) {
                if (code >= 32 && code <= 126) {
                    Check.due("append(" + code + ")", new BalconyCensus().append((char) code), 1);
                } else {
                    Check.due("append(" + code + ")", x.append((char) code), BAD);
                }
            }
            Check.due("characters", x.account(12), 0);
        }
    }

    static void grammarInAll() {
        Check.says("Terms", "Its grammar is as follows, with terminals in quotes, "
                + "where braces mean repetition and brackets an optional part:");
        Check.due("a command, none repeated", read("cat 1"), 1);
        Check.due("commands repeated", read("cat 1;cat 2;cat 3"), 3);
        Check.due("the optional digit", read("cat 10"), 1);
        Check.due("a quote", read("\"cat \"1"), BAD);
        Check.due("braces", read("day{;day}"), BAD);
        Check.due("brackets", read("cat 1[0]"), BAD);
    }

    static void textGrammar() {
        Check.says("Terms", "`text = command { \";\" command`}");
        Check.due("one command", read("day"), 1);
        Check.due("two commands", read("day;day"), 2);
        Check.due("15 commands", read("day;day;day;day;day;day;day;day;day;day;day;day;day;day;day"), 15);
        Check.due("no command", read(""), BAD);
        Check.due("a sign at the end", read("day;"), BAD);
        Check.due("a sign ahead", read(";day"), BAD);
        Check.due("two signs", read("day;;day"), BAD);
        Check.due("a blank behind the sign", read("day; day"), BAD);
        Check.due("a blank ahead of the sign", read("day ;day"), BAD);
        Check.due("a comma", read("day,day"), BAD);
    }

    static void commandGrammar() {
        Check.says("Terms", "`command = \"plant \" number \" \" digit | \"bear \" number \" \" digit "
                + "| \"hang \" number \" \" number \" \" digit | \"greet \" number \" \" number "
                + "| \"give \" number \" \" number \" \" digit | \"cat \" number | \"swap \" number \" \" number | \"day\"`");
        String[] good = {"plant 1 2", "bear 1 2", "hang 1 2 3", "greet 1 2", "cat 1", "day"};
        for (String text : good) {
            Check.due("read of '" + text + "'", read(text), 1);
        }
        Check.due("give", read("plant 1 3;give 1 2 3"), 2);
        Check.due("swap", read("cat 1;swap 1 2"), 2);
        String[] bad = {"plant 1", "plant 1 2 3", "bear 1", "bear 1 2 3", "hang 1 2", "hang 1 2 3 4", "greet 1",
            "greet 1 2 3", "give 1 2", "give 1 2 3 4", "cat", "cat 1 2", "swap 1", "swap 1 2 3", "day 1", "plant 1 12",
            "bear 1 12", "hang 1 2 12", "give 1 2 12", "plant1 2", "plant 1,2", "Day", "DAY", "undo", "clear", "read"};
        for (String text : bad) {
            Check.due("read of '" + text + "'", read(text), BAD);
        }
    }

    static void numberGrammar() {
        Check.says("Terms", "`number = digit [ digit ]`");
        Check.due("a digit", read("cat 0"), 1);
        Check.due("another digit", read("cat 9"), 1);
        Check.due("two digits", read("cat 11"), 1);
        Check.due("two digits with 0 ahead", read("cat 09"), 1);
        Check.due("two digits that are no balcony", read("cat 12"), REFUSED);
        Check.due("the greatest of two digits", read("cat 99"), REFUSED);
        Check.due("three digits", read("cat 011"), BAD);
        Check.due("no digit", read("cat "), BAD);
        Check.due("a sign", read("cat -1"), BAD);
        Check.due("a letter behind a digit", read("cat 1a"), BAD);
        BalconyCensus x = new BalconyCensus();
        Check.readText(x, "plant 10 7;plant 01 5;plant 0 2;plant 00 1");
        Check.due("plants of 10", x.balconyOf(10, 0), 7);
        Check.due("plants of 1", x.balconyOf(1, 0), 5);
        Check.due("plants of 0", x.balconyOf(0, 0), 3);
    }

    /** Each row: what stands there already, and all signs that can continue it. */
    static void everySignBehindEveryBeginning() {
        Check.says("Terms", "The fault position of a text is the index of its first character that cannot continue such a text");
        String[][] rows = {{"", FIRST_LETTERS}, {"day;", FIRST_LETTERS}, {"cat 1;", FIRST_LETTERS},
            {"p", "l"}, {"pl", "a"}, {"pla", "n"}, {"plan", "t"}, {"plant", " "}, {"plant ", DIGITS},
            {"plant 1", DIGITS + " "}, {"plant 12", " "}, {"plant 1 ", DIGITS}, {"plant 12 ", DIGITS}, {"plant 1 2", ";"},
            {"b", "e"}, {"be", "a"}, {"bea", "r"}, {"bear", " "}, {"bear ", DIGITS}, {"bear 0", DIGITS + " "},
            {"bear 01", " "}, {"bear 0 ", DIGITS}, {"bear 0 0", ";"},
            {"h", "a"}, {"ha", "n"}, {"han", "g"}, {"hang", " "}, {"hang ", DIGITS}, {"hang 1", DIGITS + " "},
            {"hang 11", " "}, {"hang 1 ", DIGITS}, {"hang 1 2", DIGITS + " "}, {"hang 1 23", " "}, {"hang 1 2 ", DIGITS},
            {"hang 1 2 3", ";"},
            {"g", "ri"}, {"gr", "e"}, {"gre", "e"}, {"gree", "t"}, {"greet", " "}, {"greet ", DIGITS},
            {"greet 1", DIGITS + " "}, {"greet 12", " "}, {"greet 1 ", DIGITS}, {"greet 1 2", DIGITS + ";"},
            {"greet 1 23", ";"}, {"gi", "v"}, {"giv", "e"}, {"give", " "}, {"give ", DIGITS}, {"give 1", DIGITS + " "},
            {"give 10", " "}, {"give 1 ", DIGITS}, {"give 1 2", DIGITS + " "}, {"give 1 10", " "}, {"give 1 2 ", DIGITS},
            {"give 1 2 3", ";"},
            {"c", "a"}, {"ca", "t"}, {"cat", " "}, {"cat ", DIGITS}, {"cat 1", DIGITS + ";"}, {"cat 12", ";"},
            {"s", "w"}, {"sw", "a"}, {"swa", "p"}, {"swap", " "}, {"swap ", DIGITS}, {"swap 1", DIGITS + " "},
            {"swap 10", " "}, {"swap 1 ", DIGITS}, {"swap 1 2", DIGITS + ";"}, {"swap 1 10", ";"},
            {"d", "a"}, {"da", "y"}, {"day", ";"}, {"day;d", "a"}, {"day;day", ";"}, {"day;cat 1", DIGITS + ";"},
            {"day;cat 1;g", "ri"}};
        for (String[] row : rows) {
            for (char sign = 32; sign <= 126; sign++) {
                dueSign(row[0], sign, row[1].indexOf(sign) >= 0);
            }
        }
    }

    private static void dueSign(String beginning, char sign, boolean isContinued) {
        BalconyCensus x = new BalconyCensus();
        String text = beginning + sign;
        int answer = Check.readText(x, text);
        if (!isContinued) {
            Check.due("read of '" + text + "'", answer, BAD);
            Check.due("fault of '" + text + "'", x.fault(), beginning.length());
        } else {
            Check.due("fault of '" + text + "'", x.fault(), answer == BAD ? text.length() : NOTHING);
        }
    }

    /** Each row: a text, and all its beginnings that are texts themselves. */
    static void everyBeginningThatEndsTooEarly() {
        Check.says("Terms", "or its length if it ends too early");
        String[][] rows = {{"plant 4 9"}, {"plant 11 1"}, {"bear 3 9"}, {"bear 10 0"}, {"hang 1 2 3"}, {"hang 10 11 1"},
            {"greet 0 1"}, {"greet 10 11", "greet 10 1"}, {"give 1 2 3"}, {"give 10 11 1"}, {"cat 4"}, {"cat 11", "cat 1"},
            {"swap 1 2"}, {"swap 10 11", "swap 10 1"}, {"day"}, {"day;cat 0;greet 1 2", "day", "day;cat 0"}};
        for (String[] row : rows) {
            for (int length = 0; length <= row[0].length(); length++) {
                String text = row[0].substring(0, length);
                boolean isText = java.util.List.of(row).contains(text);
                BalconyCensus x = new BalconyCensus();
                Check.due("read of '" + text + "' is BAD", Check.readText(x, text) == BAD ? 1 : 0, isText ? 0 : 1);
                Check.due("fault of '" + text + "'", x.fault(), isText ? NOTHING : length);
            }
        }
    }

    static void endsTooEarlyBehindALongerText() {
        Check.says("Terms", "or its length if it ends too early");
        String whole = "hang 10 11 9;greet 1 2;cat 5";
        for (int length = 0; length < whole.length(); length++) {
            String text = whole.substring(0, length);
            if (!text.endsWith("9") && !text.endsWith("greet 1 2")) {
                BalconyCensus x = new BalconyCensus();
                Check.due("read of the whole", Check.readText(x, whole), 3);
                Check.due("read of '" + text + "'", Check.readText(x, text), BAD);
                Check.due("fault of '" + text + "'", x.fault(), length);
            }
        }
        BalconyCensus x = new BalconyCensus();
        Check.readText(x, "cat 10");
        Check.due("read of 'cat 1' behind 'cat 10'", Check.readText(x, "cat 1"), 1);
        Check.due("cat on 1", x.balconyOf(1, 2), 1);
        Check.readText(x, "day;day;day");
        Check.due("read of 'day' behind 'day;day;day'", Check.readText(x, "day"), 1);
        Check.due("days", x.account(5), 4);
    }

    private static void dueFault(String text, int position) {
        BalconyCensus x = new BalconyCensus();
        Check.due("read of '" + text + "'", Check.readText(x, text), BAD);
        Check.due("fault of '" + text + "'", x.fault(), position);
    }

    static void wordsLetterByLetter() {
        Check.says("Terms", "words are looked at letter by letter.");
        dueFault("gift 1 2", 2);
        dueFault("great 1 2", 3);
        dueFault("grow", 2);
        dueFault("plants 1 2", 5);
        dueFault("beer 1 2", 2);
        dueFault("hand 1 2 3", 3);
        dueFault("cut 1", 1);
        dueFault("swim 1 2", 2);
        dueFault("days", 3);
        dueFault("Cat 1", 0);
        dueFault("cAt 1", 1);
        dueFault("day;dog", 5);
    }

    static void commandsAreTheCalls() {
        Check.says("Terms", "The commands are the calls of plant, with the balcony and how many; bear, with the balcony "
                + "and the tolerance; hang, with the balconies and the days; greet; give, with the plants; cat; swap; and day.");
        String[] texts = {"plant 5 7", "bear 5 7", "hang 7 5 3", "greet 5 7", "give 5 7 1", "cat 5", "swap 1 5", "day"};
        for (int kind = 0; kind < texts.length; kind++) {
            BalconyCensus x = started();
            BalconyCensus y = started();
            Check.due("read of '" + texts[kind] + "'", Check.readText(x, texts[kind]), 1);
            call(y, kind);
            Check.dueText("all behind '" + texts[kind] + "'", Check.shortSightOf(x), Check.shortSightOf(y));
        }
    }

    private static BalconyCensus started() {
        BalconyCensus x = new BalconyCensus();
        x.plant(5, 2);
        x.cat(1);
        x.hang(0, 1, 2);
        x.greet(7, 5);
        return x;
    }

    private static void call(BalconyCensus x, int kind) {
        switch (kind) {
            case 0: x.plant(5, 7); break;
            case 1: x.bear(5, 7); break;
            case 2: x.hang(7, 5, 3); break;
            case 3: x.greet(5, 7); break;
            case 4: x.give(5, 7, 1); break;
            case 5: x.cat(5); break;
            case 6: x.swap(1, 5); break;
            default: x.day();
        }
    }

    static void append() {
        Check.says("Promise 3", "Appends a character to the input.");
        BalconyCensus x = new BalconyCensus();
        x.append('c');
        x.append('a');
        x.append('t');
        x.append(' ');
        x.append('1');
        x.append('0');
        Check.due("read()", x.read(), 1);
        Check.due("cat on 10", x.balconyOf(10, 2), 0);
    }

    static void appendReturnsLength() {
        Check.says("Promise 3", "Returns the length of the input then");
        BalconyCensus x = new BalconyCensus();
        Check.due("append('d')", x.append('d'), 1);
        Check.due("append('a')", x.append('a'), 2);
        Check.due("append('y')", x.append('y'), 3);
        x.read();
        Check.due("append('y') behind read", x.append('y'), 1);
    }

    static void appendBadCode() {
        Check.says("Promise 3", "BAD if its code is out of range,");
        BalconyCensus x = new BalconyCensus();
        Check.due("append(31)", x.append((char) 31), BAD);
        Check.due("append(127)", x.append((char) 127), BAD);
        Check.due("append('d' + 256)", x.append((char) ('d' + 256)), BAD);
        Check.due("append(65535)", x.append((char) 65535), BAD);
        Check.due("characters", x.account(12), 0);
        Check.due("append(32)", x.append((char) 32), 1);
        Check.due("append(126)", x.append((char) 126), 2);
    }

    static void appendFull() {
        Check.says("Promise 3", "or there are 60.");
        BalconyCensus x = new BalconyCensus();
        for (int length = 1; length < 60; length++) {
            x.append('d');
        }
        Check.due("append, the 60th", x.append('d'), 60);
        Check.due("append, the 61st", x.append('d'), BAD);
        Check.due("append of a bad one, the 61st", x.append((char) 0), BAD);
        Check.due("characters", x.account(12), 60);
    }

    static void readOneAfterTheOther() {
        Check.says("Promise 12", "Carries out the commands of the input, one after the other,");
        BalconyCensus x = new BalconyCensus();
        Check.due("read", Check.readText(x, "plant 4 5;hang 0 4 1;give 4 0 5;cat 0;swap 4 0"), 5);
        Check.due("plants of 0", x.balconyOf(0, 0), 5);
        Check.due("cat on 4", x.balconyOf(4, 2), 0);
        Check.due("the other order", read("hang 0 4 1;give 4 0 5;plant 4 5"), REFUSED);
        Check.due("read", Check.readText(x, "day;greet 1 2;day;greet 1 2"), 4);
        Check.due("greeted(1, 2)", x.greeted(1, 2), 2);
    }

    static void readAllOrNone() {
        Check.says("Promise 12", "all of them or none.");
        String[] lasts = {"plant 5 8", "bear 0 3", "hang 1 0 1", "greet 7 5", "give 5 7 9", "cat 1", "swap 3 4", "cat 12",
            "plant 5 0", "hang 1 2 0", "greet 12 0", "give 5 7 0"};
        for (String last : lasts) {
            BalconyCensus x = started();
            String before = Check.shortSightOf(x);
            Check.due("read with '" + last + "' last", Check.readText(x, "cat 5;plant 7 1;bear 9 9;" + last), REFUSED);
            Check.dueText("all behind '" + last + "'", Check.shortSightOf(x), before);
            Check.due("changes behind '" + last + "'", x.account(13), 4);
            Check.due("greet behind '" + last + "'", x.greet(7, 5), REFUSED);
        }
        BalconyCensus x = started();
        Check.due("read with a day ahead", Check.readText(x, "day;cat 1"), REFUSED);
        Check.due("days", x.account(5), 0);
        Check.due("greet(7, 5) still today", x.greet(7, 5), REFUSED);
        Check.due("days of the line", x.lineOf(0, 2), 2);
    }

    static void readNoneLeavesNoTrace() {
        Check.says("Promise 12", "all of them or none.");
        for (int kind = 0; kind < 8; kind++) {
            BalconyCensus x = started();
            BalconyCensus y = started();
            Check.due("a refused text", Check.readText(x, "day;plant 5 1;cat 2;hang 5 6 7;bear 8 8;cat 2"), REFUSED);
            call(x, kind);
            call(y, kind);
            Check.dueText("all behind change " + kind, Check.shortSightOf(x), Check.shortSightOf(y));
        }
    }

    static void readEmptiesInput() {
        Check.says("Promise 12", "The input is empty then, whatever is returned.");
        BalconyCensus x = new BalconyCensus();
        String[] texts = {"day", "", "x", "da", "cat 1;cat 1", "cat 12", "day;day"};
        int[] answers = {1, BAD, BAD, BAD, REFUSED, REFUSED, 2};
        for (int number = 0; number < texts.length; number++) {
            Check.type(x, texts[number]);
            Check.due("characters of '" + texts[number] + "'", x.account(12), texts[number].length());
            Check.due("read of '" + texts[number] + "'", x.read(), answers[number]);
            Check.due("characters behind '" + texts[number] + "'", x.account(12), 0);
            Check.due("read of nothing", x.read(), BAD);
            Check.due("fault of nothing", x.fault(), 0);
        }
    }

    static void readReturnsCommands() {
        Check.says("Promise 12", "Returns the number of commands");
        Check.due("one", read("plant 1 9"), 1);
        Check.due("two", read("plant 1 8;bear 1 9"), 2);
        Check.due("three with days", read("day;day;day"), 3);
        Check.due("the most", read("day;day;day;day;day;day;day;day;day;day;day;day;day;day;day"), 15);
    }

    static void readBad() {
        Check.says("Promise 12", "BAD, where the fault position is kept");
        BalconyCensus x = new BalconyCensus();
        x.greet(3, 3);
        Check.due("read of 'day;cat'", Check.readText(x, "day;cat"), BAD);
        Check.due("fault()", x.fault(), 7);
        Check.due("days: nothing is carried out", x.account(5), 0);
        Check.due("changes", x.account(13), 0);
        Check.dueReasons(x, "a fault is no refusal", 2, 3, NOTHING, NOTHING);
        Check.due("a refused command ahead of a fault", Check.readText(x, "cat 12;cat 1;cat 1;"), BAD);
        Check.due("fault()", x.fault(), 19);
        Check.dueReasons(x, "BAD is named ahead of REFUSED", 2, 3, NOTHING, NOTHING);
    }

    static void readRefused() {
        Check.says("Promise 12", "REFUSED for 10 or 11.");
        BalconyCensus x = new BalconyCensus();
        Check.due("a command is refused", Check.readText(x, "cat 1;cat 2;cat 1"), REFUSED);
        Check.dueReasons(x, "a command is refused", 10, 2, 8, 0);
        Check.due("a command returns another code", Check.readText(x, "cat 1;cat 12"), REFUSED);
        Check.dueReasons(x, "a command returns another code", 11, 1, NOTHING, NOTHING);
        Check.due("the first that fails is refused", Check.readText(x, "bear 0 3;cat 12"), REFUSED);
        Check.dueReasons(x, "the first that fails is refused", 10, 0, 3, 3);
        Check.due("the first that fails returns another code", Check.readText(x, "cat 12;bear 0 3"), REFUSED);
        Check.dueReasons(x, "the first that fails returns another code", 11, 0, NOTHING, NOTHING);
    }

    static void faultOfTheLatest() {
        Check.says("Promise 13", "Returns the fault position of the latest text that had a fault.");
        BalconyCensus x = new BalconyCensus();
        Check.readText(x, "days");
        Check.due("fault()", x.fault(), 3);
        Check.readText(x, "day");
        Check.due("fault() behind a text without one", x.fault(), 3);
        Check.readText(x, "cat 12");
        Check.due("fault() behind a refused text", x.fault(), 3);
        Check.readText(x, "cow");
        Check.due("fault() of a later one", x.fault(), 1);
        x.read();
        Check.due("fault() of an empty one", x.fault(), 0);
    }

    static void faultPosition() {
        Check.says("Promise 13", "Returns the position");
        dueFault("", 0);
        dueFault("day;day;day;day;day;day;day;day;day;day;day;day;day;day;day;", 60);
        dueFault("day;day;day;day;day;day;day;day;day;day;day;day;day;day;day~", 59);
    }

    static void faultOfNone() {
        Check.says("Promise 13", "NOTHING if none had one.");
        BalconyCensus x = new BalconyCensus();
        Check.due("fault() at first", x.fault(), NOTHING);
        Check.readText(x, "day");
        Check.readText(x, "cat 12");
        Check.readText(x, "greet 1 1");
        x.append('x');
        x.append((char) 7);
        Check.due("fault() without a fault", x.fault(), NOTHING);
    }
}

/** Reasons, changes and codes of calls, and the promise of reason, sentence by sentence. */
final class SentencesOfReasons {
    private static final int NONE = Check.NONE;
    private static final int BAD = Check.BAD;
    private static final int REFUSED = Check.REFUSED;
    private static final int NOTHING = Check.NOTHING;

    private static void orderSentence() {
        Check.says("Terms", "Something is refused for the first that applies of the reasons that its method names, "
                + "in the order in which it names them, with a detail:");
    }

    /** Balconies 0 and 4 feud, have both 9 plants, and each greeted the other one today. */
    private static BalconyCensus feuding() {
        BalconyCensus x = new BalconyCensus();
        x.greet(0, 4);
        x.greet(4, 0);
        x.plant(0, 9);
        x.plant(4, 9);
        return x;
    }

    static void orderOfHang() {
        orderSentence();
        BalconyCensus x = new BalconyCensus();
        for (int number = 0; number < 6; number++) {
            x.hang(number, number + 1, number + 3);
        }
        Check.dueRefusal(x, "2 ahead of 1", x.hang(9, 9, 1), 2, 9);
        Check.dueRefusal(x, "3 ahead of 1", x.hang(6, 5, 1), 3, 8);
        Check.dueRefusal(x, "1 alone", x.hang(6, 7, 1), 1, 6);
        x.clear();
        Check.dueRefusal(x, "2 alone", x.hang(9, 9, 1), 2, 9);
        x.hang(9, 8, 2);
        Check.dueRefusal(x, "3 alone", x.hang(8, 9, 1), 3, 2);
        Check.dueRefusal(x, "2 with lines at it", x.hang(9, 9, 1), 2, 9);
    }

    static void orderOfGreet() {
        orderSentence();
        BalconyCensus x = feuding();
        Check.dueRefusal(x, "5 ahead of 7", x.greet(0, 4), 5, 4);
        Check.dueRefusal(x, "5 ahead of 7 from above", x.greet(4, 0), 5, 4);
        x.day();
        Check.dueRefusal(x, "5 alone", x.greet(0, 4), 5, 4);
        x.undo();
        x.hang(0, 4, 1);
        Check.dueRefusal(x, "7 alone", x.greet(0, 4), 7, 1);
        Check.dueRefusal(x, "2 alone", x.greet(4, 4), 2, 4);
    }

    static void orderOfGive() {
        orderSentence();
        BalconyCensus x = feuding();
        x.give(0, 1, 7);
        Check.dueRefusal(x, "2 ahead of 6 and 4", x.give(0, 0, 9), 2, 0);
        Check.dueRefusal(x, "2 ahead of 4", x.give(4, 4, 9), 2, 4);
        Check.dueRefusal(x, "5 ahead of 6 and 4", x.give(0, 4, 3), 5, 4);
        Check.dueRefusal(x, "5 ahead of 4", x.give(4, 0, 8), 5, 4);
        Check.dueRefusal(x, "5 alone", x.give(4, 0, 1), 5, 4);
        x.hang(0, 4, 1);
        Check.dueRefusal(x, "6 ahead of 4", x.give(0, 4, 3), 6, 2);
        Check.dueRefusal(x, "4 alone", x.give(0, 4, 1), 4, 9);
        Check.dueRefusal(x, "6 alone", x.give(0, 2, 3), 6, 2);
        Check.dueRefusal(x, "2 alone", x.give(0, 0, 1), 2, 0);
    }

    static void orderOfCat() {
        orderSentence();
        BalconyCensus x = new BalconyCensus();
        for (int number = 0; number < 6; number++) {
            x.cat(number + 3);
        }
        Check.dueRefusal(x, "8 ahead of 1", x.cat(7), 8, 4);
        Check.dueRefusal(x, "1 alone", x.cat(9), 1, 6);
        x.undo();
        Check.dueRefusal(x, "8 alone", x.cat(7), 8, 4);
        Check.due("cat(9) with 5 cats", x.cat(9), 5);
    }

    static void orderOfSwap() {
        orderSentence();
        BalconyCensus x = feuding();
        x.cat(1);
        Check.dueRefusal(x, "2 ahead of 9", x.swap(0, 0), 2, 0);
        Check.dueRefusal(x, "2 alone", x.swap(1, 1), 2, 1);
        Check.dueRefusal(x, "5 ahead of 9", x.swap(0, 4), 5, 4);
        Check.dueRefusal(x, "5 ahead of 9 from above", x.swap(4, 0), 5, 4);
        Check.dueRefusal(x, "9 alone", x.swap(0, 8), 9, 1);
        x.cat(4);
        Check.dueRefusal(x, "5 alone", x.swap(4, 0), 5, 4);
    }

    static void orderOfRead() {
        orderSentence();
        BalconyCensus x = feuding();
        Check.due("reasons of the command in their order", Check.readText(x, "day;give 0 4 9"), REFUSED);
        Check.dueReasons(x, "give in a feud", 10, 1, 5, 4);
        Check.due("an error of the command ahead of its reasons", Check.readText(x, "give 4 4 0"), REFUSED);
        Check.dueReasons(x, "give of 0", 11, 0, NOTHING, NOTHING);
    }

    static void reason1Lines() {
        Check.says("Terms", "1, there are 6 lines or 6 cats: 6;");
        BalconyCensus x = new BalconyCensus();
        for (int number = 0; number < 6; number++) {
            Check.due("line " + number, x.hang(number, 11, 9), number);
        }
        Check.dueRefusal(x, "a line with 6", x.hang(7, 8, 1), 1, 6);
        x.undo();
        Check.due("a line with 5", x.hang(7, 8, 1), 5);
        Check.due("a cat with 6 lines", x.cat(0), 0);
    }

    static void reason1Cats() {
        Check.says("Terms", "1, there are 6 lines or 6 cats: 6;");
        BalconyCensus x = new BalconyCensus();
        for (int number = 0; number < 6; number++) {
            Check.due("cat " + number, x.cat(number), number);
        }
        Check.dueRefusal(x, "a cat with 6", x.cat(7), 1, 6);
        x.undo();
        Check.due("a cat with 5", x.cat(7), 5);
        Check.due("a line with 6 cats", x.hang(0, 1, 1), 0);
    }

    static void reason2() {
        Check.says("Terms", "2, both balconies are one: the balcony;");
        for (int balcony = 0; balcony < 12; balcony++) {
            BalconyCensus x = new BalconyCensus();
            x.plant(balcony, 1);
            x.cat(balcony);
            Check.dueRefusal(x, "hang of " + balcony, x.hang(balcony, balcony, 1), 2, balcony);
            x.bear(0, 3);
            Check.dueRefusal(x, "greet of " + balcony, x.greet(balcony, balcony), 2, balcony);
            x.bear(0, 3);
            Check.dueRefusal(x, "give of " + balcony, x.give(balcony, balcony, 1), 2, balcony);
            x.bear(0, 3);
            Check.dueRefusal(x, "swap of " + balcony, x.swap(balcony, balcony), 2, balcony);
        }
    }

    static void reason3Tolerance() {
        Check.says("Terms", "3, it is so already: the tolerance, or the days of the line that is between both;");
        BalconyCensus x = new BalconyCensus();
        Check.dueRefusal(x, "bear(6, 3) at first", x.bear(6, 3), 3, 3);
        for (int tolerance = 0; tolerance <= 9; tolerance++) {
            if (tolerance != 3) {
                x.bear(6, tolerance);
                Check.dueRefusal(x, "bear(6, " + tolerance + ") again", x.bear(6, tolerance), 3, tolerance);
            }
        }
        Check.due("bear(7, 9)", x.bear(7, 9), 3);
    }

    static void reason3Days() {
        Check.says("Terms", "3, it is so already: the tolerance, or the days of the line that is between both;");
        BalconyCensus x = new BalconyCensus();
        x.hang(1, 2, 2);
        x.hang(3, 2, 9);
        Check.dueRefusal(x, "hang(2, 3, 1)", x.hang(2, 3, 1), 3, 9);
        Check.dueRefusal(x, "hang(1, 2, 9)", x.hang(1, 2, 9), 3, 2);
        x.day();
        Check.dueRefusal(x, "hang(2, 3, 1) a day later", x.hang(2, 3, 1), 3, 8);
        Check.dueRefusal(x, "hang(2, 1, 1) a day later", x.hang(2, 1, 1), 3, 1);
        x.day();
        Check.due("hang(2, 1, 1) when the line is gone", x.hang(2, 1, 1), 1);
    }

    static void reason4() {
        Check.says("Terms", "4, there would be more than 9 plants: how many there are;");
        for (int plants = 1; plants <= 9; plants++) {
            BalconyCensus x = new BalconyCensus();
            x.plant(0, plants);
            x.plant(1, 9);
            Check.dueRefusal(x, "plant with " + plants, x.plant(0, 10 - plants), 4, plants);
            x.bear(0, 3);
            Check.dueRefusal(x, "give with " + plants, x.give(1, 0, 10 - plants), 4, plants);
            if (plants < 9) {
                Check.due("give up to 9", x.give(1, 0, 9 - plants), 9);
            }
        }
    }

    static void reason5() {
        Check.says("Terms", "5, they feud: the one that is above;");
        int[][] pairs = {{0, 4}, {5, 9}, {2, 10}, {7, 3}, {11, 3}, {11, 7}};
        for (int[] pair : pairs) {
            BalconyCensus x = new BalconyCensus();
            int above = pair[0] > pair[1] ? pair[0] : pair[1];
            x.plant(above, 5);
            Check.dueRefusal(x, "greet(" + pair[0] + ", " + pair[1] + ")", x.greet(pair[0], pair[1]), 5, above);
            Check.dueRefusal(x, "greet(" + pair[1] + ", " + pair[0] + ")", x.greet(pair[1], pair[0]), 5, above);
        }
    }

    static void reason6() {
        Check.says("Terms", "6, there are too few plants: how many;");
        for (int plants = 0; plants < 9; plants++) {
            BalconyCensus x = new BalconyCensus();
            if (plants > 0) {
                x.plant(3, plants);
            }
            Check.dueRefusal(x, "give of one too many", x.give(3, 8, plants + 1), 6, plants);
            Check.dueRefusal(x, "give of 9", x.give(3, 8, 9), 6, plants);
            if (plants > 0) {
                Check.due("give of all", x.give(3, 8, plants), plants);
            }
        }
    }

    static void reason7() {
        Check.says("Terms", "7, it was greeted today: how often so far;");
        BalconyCensus x = new BalconyCensus();
        x.greet(2, 5);
        x.greet(5, 1);
        for (int day = 0; day < 4; day++) {
            Check.due("greet(1, 5)", x.greet(1, 5), day + 1);
            Check.dueRefusal(x, "greet(1, 5) again", x.greet(1, 5), 7, day + 1);
            x.day();
        }
        Check.due("greet(5, 1), which was greeted earlier", x.greet(5, 1), 2);
        Check.due("greet(3, 5), which others greeted", x.greet(3, 5), 1);
    }

    static void reason8() {
        Check.says("Terms", "8, there is a cat: the cat;");
        BalconyCensus x = new BalconyCensus();
        x.cat(9);
        x.cat(4);
        x.cat(0);
        Check.dueRefusal(x, "cat(9)", x.cat(9), 8, 0);
        Check.dueRefusal(x, "cat(4)", x.cat(4), 8, 1);
        x.swap(4, 11);
        Check.dueRefusal(x, "cat(11)", x.cat(11), 8, 1);
        Check.dueRefusal(x, "cat(0)", x.cat(0), 8, 2);
    }

    static void reason9() {
        Check.says("Terms", "9, there is no cat on either: how many cats there are;");
        BalconyCensus x = new BalconyCensus();
        for (int cats = 0; cats <= 6; cats++) {
            Check.dueRefusal(x, "swap(10, 11) with " + cats, x.swap(10, 11), 9, cats);
            x.cat(cats);
        }
        Check.due("swap(5, 11)", x.swap(5, 11), 1);
    }

    static void reason10() {
        Check.says("Terms", "10, a command of a text is refused: its number, from 0;");
        BalconyCensus x = new BalconyCensus();
        for (int number = 1; number <= 13; number++) {
            String text = "day;".repeat(number - 1) + "cat 1;cat 1";
            Check.due("read of '" + text + "'", Check.readText(x, text), REFUSED);
            Check.dueReasons(x, "'" + text + "'", 10, number, 8, 0);
        }
        x = new BalconyCensus();
        x.cat(1);
        Check.due("the first one", Check.readText(x, "cat 1;day"), REFUSED);
        Check.dueReasons(x, "the first one", 10, 0, 8, 0);
    }

    static void reason11() {
        Check.says("Terms", "11, a command of a text would return another code: its number, from 0.");
        String[] commands = {"plant 12 1", "plant 1 0", "bear 12 1", "bear 99 3", "hang 12 1 1", "hang 1 12 1", "hang 1 2 0",
            "hang 1 1 0", "greet 12 1", "greet 1 12", "greet 12 12", "give 12 1 1", "give 1 12 1", "give 1 2 0", "cat 12",
            "swap 12 1", "swap 1 12"};
        for (String command : commands) {
            BalconyCensus x = new BalconyCensus();
            Check.due("read of '" + command + "'", Check.readText(x, command), REFUSED);
            Check.dueReasons(x, "'" + command + "' alone", 11, 0, NOTHING, NOTHING);
            Check.due("read of 'day;cat 1;" + command + "'", Check.readText(x, "day;cat 1;" + command), REFUSED);
            Check.dueReasons(x, "'" + command + "' as the third", 11, 2, NOTHING, NOTHING);
        }
    }

    static void behind10() {
        Check.says("Terms", "Behind 10 stands the reason of the command.");
        String[] commands = {"plant 4 1", "bear 0 3", "hang 8 8 1", "hang 1 2 9", "greet 4 0", "greet 2 1", "give 3 2 1",
            "give 4 3 9", "cat 1", "swap 2 3"};
        int[][] reasons = {{4, 9}, {3, 3}, {2, 8}, {3, 4}, {5, 4}, {7, 1}, {6, 0}, {4, 1}, {8, 0}, {9, 1}};
        for (int number = 0; number < commands.length; number++) {
            BalconyCensus x = new BalconyCensus();
            x.plant(4, 9);
            x.hang(2, 1, 4);
            x.greet(2, 1);
            x.cat(1);
            String text = number == 7 ? "plant 3 1;" + commands[number] : "bear 9 9;" + commands[number];
            Check.due("read of '" + text + "'", Check.readText(x, text), REFUSED);
            Check.dueReasons(x, "'" + text + "'", 10, 1, reasons[number][0], reasons[number][1]);
        }
    }

    static void behind10Of6() {
        Check.says("Terms", "Behind 10 stands the reason of the command.");
        BalconyCensus x = new BalconyCensus();
        for (int number = 0; number < 5; number++) {
            x.cat(number);
            x.hang(number, number + 1, 9);
        }
        Check.due("read of cats", Check.readText(x, "cat 10;cat 11"), REFUSED);
        Check.dueReasons(x, "a seventh cat", 10, 1, 1, 6);
        Check.due("read of lines", Check.readText(x, "day;hang 8 9 1;hang 9 10 1"), REFUSED);
        Check.dueReasons(x, "a seventh line", 10, 2, 1, 6);
    }

    static void changesCount() {
        Check.says("Terms", "The changes are the successful calls of plant, bear, hang, greet, give, cat, swap, day and read,");
        BalconyCensus x = new BalconyCensus();
        x.plant(0, 2);
        Check.due("changes behind plant", x.account(13), 1);
        x.bear(0, 2);
        Check.due("changes behind bear", x.account(13), 2);
        x.hang(0, 1, 2);
        Check.due("changes behind hang", x.account(13), 3);
        x.greet(0, 1);
        Check.due("changes behind greet", x.account(13), 4);
        x.give(0, 1, 2);
        Check.due("changes behind give", x.account(13), 5);
        x.cat(0);
        Check.due("changes behind cat", x.account(13), 6);
        x.swap(0, 1);
        Check.due("changes behind swap", x.account(13), 7);
        x.day();
        Check.due("changes behind day", x.account(13), 8);
        x.clear();
        Check.readText(x, "day;day;cat 1");
        Check.due("changes behind read", x.account(13), 1);
    }

    static void noChangesBesides() {
        Check.says("Terms", "The changes are the successful calls of plant, bear, hang, greet, give, cat, swap, day and read,");
        BalconyCensus x = new BalconyCensus();
        x.plant(0, 9);
        x.append('x');
        x.read();
        x.append('x');
        x.save();
        x.write(0);
        x.writeLines();
        x.wouldGrow(5);
        x.excessAgain();
        x.isWell();
        x.plant(0, 1);
        x.plant(12, 1);
        x.plant(1, 0);
        x.bear(0, 3);
        x.hang(1, 1, 1);
        x.greet(1, 1);
        x.give(1, 0, 1);
        x.swap(0, 1);
        Check.due("changes behind calls that are none", x.account(13), 1);
        Check.due("undo()", x.undo(), 0);
        Check.due("plants", x.account(0), 0);
    }

    static void changesWithoutDifference() {
        Check.says("Terms", "also those by which nothing is different.");
        BalconyCensus x = new BalconyCensus();
        String before = Check.shortSightOf(x);
        Check.due("read", Check.readText(x, "bear 0 5;bear 0 3"), 2);
        Check.dueText("all behind it", Check.shortSightOf(x), before);
        Check.due("changes", x.account(13), 1);
        Check.due("day() by which nothing grows", x.day(), 0);
        Check.due("changes", x.account(13), 2);
        Check.due("undo()", x.undo(), 1);
        Check.due("undo()", x.undo(), 0);
        Check.due("undo()", x.undo(), NOTHING);
    }

    static void latest8() {
        Check.says("Terms", "The latest 8 can be undone.");
        BalconyCensus x = new BalconyCensus();
        for (int day = 1; day <= 30; day++) {
            x.day();
            Check.due("changes behind " + day + " days", x.account(13), day < 8 ? day : 8);
        }
        for (int left = 7; left >= 0; left--) {
            Check.due("undo()", x.undo(), left);
            Check.due("days", x.account(5), 22 + left);
        }
        Check.due("undo() of the ninth", x.undo(), NOTHING);
        Check.due("days", x.account(5), 22);
        x.day();
        Check.due("changes", x.account(13), 1);
        Check.due("undo()", x.undo(), 0);
        Check.due("days", x.account(5), 22);
    }

    private static void dueStays(BalconyCensus x, String behind, String line) {
        Check.due("characters behind " + behind, x.account(12), 3);
        Check.due("fault() behind " + behind, x.fault(), 1);
        Check.dueReasons(x, behind, 10, 0, 2, 5);
        Check.dueText("line behind " + behind, Check.lineOf(x, line.length()), line);
    }

    static void whatStays() {
        Check.says("Terms", "The input, the fault position, the reasons and the written line are neither undone nor saved, and stay.");
        BalconyCensus x = new BalconyCensus();
        x.plant(0, 1);
        x.save();
        x.plant(0, 2);
        Check.readText(x, "cow");
        Check.readText(x, "greet 5 5");
        Check.due("write(0)", x.write(0), 7);
        Check.type(x, "day");
        x.undo();
        dueStays(x, "undo", "3 0 0 0");
        x.save();
        dueStays(x, "save", "3 0 0 0");
        x.restore();
        dueStays(x, "restore", "3 0 0 0");
        x.clear();
        dueStays(x, "clear", "3 0 0 0");
        Check.due("read() of the input that stayed", x.read(), 1);
    }

    static void errorsLeaveEverything() {
        Check.says("Terms", "A call that returns an error leaves everything as it was,");
        BalconyCensus x = new BalconyCensus();
        x.plant(4, 9);
        x.plant(1, 2);
        x.cat(1);
        x.hang(2, 3, 4);
        x.greet(1, 2);
        x.append('d');
        int length = x.write(1);
        String line = Check.lineOf(x, length);
        String before = Check.shortSightOf(x);
        int[] errors = {x.append((char) 20), x.plant(4, 1), x.plant(4, 10), x.plant(-1, 1), x.bear(0, 3), x.bear(0, 10),
            x.bear(12, 0), x.hang(2, 3, 5), x.hang(2, 2, 5), x.hang(1, 2, 10), x.hang(1, 12, 1), x.greet(1, 2), x.greet(0, 4),
            x.greet(5, 5), x.greet(12, 5), x.give(1, 2, 3), x.give(4, 0, 3), x.give(1, 4, 1), x.give(1, 2, 0), x.give(1, 12, 1),
            x.cat(1), x.cat(12), x.swap(0, 4), x.swap(2, 3), x.swap(1, 1), x.swap(12, 1), x.restore(), x.write(3), x.wouldGrow(21)};
        for (int number = 0; number < errors.length; number++) {
            Check.due("error " + number + " is one", errors[number] < 0 ? 1 : 0, 1);
        }
        Check.dueText("all behind errors", Check.shortSightOf(x), before);
        Check.due("changes behind errors", x.account(13), 5);
        Check.due("characters behind errors", x.account(12), 1);
        Check.dueText("line behind errors", Check.lineOf(x, length), line);
    }

    static void errorsOfRead() {
        Check.says("Terms", "except that read empties the input, and that reasons and fault positions are kept.");
        BalconyCensus x = new BalconyCensus();
        Check.due("read of 'dax'", Check.readText(x, "dax"), BAD);
        Check.due("fault()", x.fault(), 2);
        Check.dueReasons(x, "a fault", NOTHING, NOTHING, NOTHING, NOTHING);
        Check.due("read of 'cat 1;cat 1'", Check.readText(x, "cat 1;cat 1"), REFUSED);
        Check.dueReasons(x, "a refused text", 10, 1, 8, 0);
        Check.due("fault()", x.fault(), 2);
        x.plant(12, 1);
        x.plant(0, 0);
        Check.dueReasons(x, "errors that are no refusals", 10, 1, 8, 0);
        Check.due("plant(0, 3)", x.plant(0, 3), 3);
        Check.dueReasons(x, "a success", 10, 1, 8, 0);
        Check.dueRefusal(x, "bear(1, 3)", x.bear(1, 3), 3, 3);
    }

    static void errorsInOrderOfPlantAndBear() {
        Check.says("Terms", "If several errors apply, the one that is named first is returned.");
        BalconyCensus x = new BalconyCensus();
        x.plant(0, 9);
        Check.due("plant: NONE ahead of BAD", x.plant(12, 0), NONE);
        Check.due("plant: NONE ahead of BAD", x.plant(-1, 10), NONE);
        Check.due("plant: BAD ahead of REFUSED", x.plant(0, 10), BAD);
        Check.due("plant: BAD ahead of REFUSED", x.plant(0, Integer.MAX_VALUE), BAD);
        Check.due("plant: REFUSED", x.plant(0, 9), REFUSED);
        Check.due("bear: NONE ahead of BAD", x.bear(12, -1), NONE);
        Check.due("bear: NONE ahead of BAD", x.bear(-1, 10), NONE);
        Check.due("bear: NONE, where 3 might apply", x.bear(12, 3), NONE);
        Check.due("bear: BAD", x.bear(0, -1), BAD);
        Check.due("bear: REFUSED", x.bear(0, 3), REFUSED);
        Check.due("balconyOf: NONE ahead of BAD", x.balconyOf(12, 8), NONE);
        Check.due("catOf: NONE ahead of BAD", x.catOf(0, 4), NONE);
        Check.due("lineOf: NONE ahead of BAD", x.lineOf(0, 3), NONE);
        Check.due("way: NONE ahead of NOTHING", x.way(12, 0, 5), NONE);
        Check.due("way: NONE ahead of NOTHING", x.way(0, -1, -1), NONE);
    }

    static void errorsInOrderOfPairs() {
        Check.says("Terms", "If several errors apply, the one that is named first is returned.");
        BalconyCensus x = new BalconyCensus();
        Check.due("hang: NONE ahead of BAD", x.hang(12, 1, 0), NONE);
        Check.due("hang: NONE ahead of BAD", x.hang(1, 12, 10), NONE);
        Check.due("hang: NONE ahead of REFUSED", x.hang(12, 12, 1), NONE);
        Check.due("hang: BAD ahead of REFUSED for 2", x.hang(1, 1, 0), BAD);
        Check.due("greet: NONE ahead of REFUSED", x.greet(12, 12), NONE);
        Check.due("greet: NONE ahead of REFUSED", x.greet(-1, -1), NONE);
        Check.due("give: NONE ahead of BAD", x.give(12, 1, 0), NONE);
        Check.due("give: NONE ahead of BAD", x.give(1, -1, 10), NONE);
        Check.due("give: NONE ahead of REFUSED", x.give(12, 12, 1), NONE);
        Check.due("give: BAD ahead of REFUSED for 2", x.give(1, 1, 0), BAD);
        Check.due("give: BAD ahead of REFUSED for 6", x.give(1, 2, 10), BAD);
        Check.due("swap: NONE ahead of REFUSED", x.swap(12, 12), NONE);
        Check.dueReasons(x, "none of these is refused", NOTHING, NOTHING, NOTHING, NOTHING);
        for (int number = 0; number < 6; number++) {
            x.hang(number, number + 1, 9);
        }
        Check.due("hang: BAD ahead of REFUSED for 3", x.hang(0, 1, 10), BAD);
        Check.due("hang: BAD ahead of REFUSED for 1", x.hang(8, 9, 0), BAD);
        x.plant(11, 9);
        Check.due("give: BAD ahead of REFUSED for 5", x.give(11, 7, 10), BAD);
        Check.due("give: BAD ahead of REFUSED for 4", x.give(11, 11, 0), BAD);
        Check.dueReasons(x, "none of these is refused", NOTHING, NOTHING, NOTHING, NOTHING);
    }

    static void reasonOfTheLast() {
        Check.says("Promise 14", "Returns the reason for which something was refused last,");
        BalconyCensus x = new BalconyCensus();
        x.greet(4, 4);
        Check.due("reason(0, false)", x.reason(0, false), 2);
        x.swap(0, 1);
        Check.due("reason(0, false) of a later one", x.reason(0, false), 9);
        x.cat(0);
        x.append((char) 1);
        x.plant(0, 10);
        Check.due("reason(0, false) behind others", x.reason(0, false), 9);
        Check.due("reason(0, false) once more", x.reason(0, false), 9);
    }

    static void reasonBehind() {
        Check.says("Promise 14", "the one that stands behind it, or a detail.");
        BalconyCensus x = new BalconyCensus();
        Check.readText(x, "day;day;swap 7 8");
        Check.dueReasons(x, "no cats", 10, 2, 9, 0);
        Check.readText(x, "bear 7 8;bear 7 8");
        Check.dueReasons(x, "the same tolerance", 10, 1, 3, 8);
    }

    static void reasonByDepth() {
        Check.says("Promise 14", "`depth`: 0 for the reason, 1 for the one behind it");
        BalconyCensus x = new BalconyCensus();
        Check.readText(x, "day;hang 7 7 1");
        Check.due("reason(0, false)", x.reason(0, false), 10);
        Check.due("reason(1, false)", x.reason(1, false), 2);
        Check.due("reason(0, true)", x.reason(0, true), 1);
        Check.due("reason(1, true)", x.reason(1, true), 7);
    }

    static void reasonOrDetail() {
        Check.says("Promise 14", "`isDetail`: true for the detail, false for the reason");
        BalconyCensus x = new BalconyCensus();
        x.greet(11, 11);
        Check.due("reason(0, true)", x.reason(0, true), 11);
        Check.due("reason(0, false)", x.reason(0, false), 2);
        Check.says("Promise 14", "Returns the number");
        x.bear(0, 3);
        Check.due("reason(0, true)", x.reason(0, true), 3);
        Check.due("reason(0, false)", x.reason(0, false), 3);
    }

    static void reasonBad() {
        Check.says("Promise 14", "BAD if depth is not from 0 to 1");
        int[] depths = {-1, 2, Integer.MIN_VALUE, Integer.MAX_VALUE};
        for (int depth : depths) {
            BalconyCensus x = new BalconyCensus();
            Check.due("reason(" + depth + ", false): BAD is named ahead of NOTHING", x.reason(depth, false), BAD);
            Check.due("reason(" + depth + ", true): BAD is named ahead of NOTHING", x.reason(depth, true), BAD);
            Check.readText(x, "bear 1 3");
            Check.due("reason(" + depth + ", false)", x.reason(depth, false), BAD);
            Check.due("reason(" + depth + ", true)", x.reason(depth, true), BAD);
        }
    }

    static void reasonNothing() {
        Check.says("Promise 14", "NOTHING if nothing was refused,");
        BalconyCensus x = new BalconyCensus();
        Check.dueReasons(x, "at first", NOTHING, NOTHING, NOTHING, NOTHING);
        x.plant(12, 1);
        x.plant(1, 0);
        x.undo();
        x.restore();
        x.read();
        Check.dueReasons(x, "behind other errors", NOTHING, NOTHING, NOTHING, NOTHING);
    }

    static void reasonNothingBehind() {
        Check.says("Promise 14", "or there is none behind it.");
        BalconyCensus x = new BalconyCensus();
        Check.dueRefusal(x, "bear(0, 3)", x.bear(0, 3), 3, 3);
        Check.readText(x, "bear 0 3");
        Check.dueReasons(x, "a refused text", 10, 0, 3, 3);
        Check.dueRefusal(x, "greet(0, 0) behind a refused text", x.greet(0, 0), 2, 0);
        Check.readText(x, "bear 0 3");
        Check.due("read of 'cat 12'", Check.readText(x, "cat 12"), REFUSED);
        Check.dueReasons(x, "a text with another code behind a refused one", 11, 0, NOTHING, NOTHING);
    }
}

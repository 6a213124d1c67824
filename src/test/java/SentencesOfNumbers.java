/** Promises 15 to 19 and 37 to 39, numbers of what there is, sentence by sentence. */
final class SentencesOfNumbers {
    private static final int NONE = Check.NONE;
    private static final int BAD = Check.BAD;
    private static final int NOTHING = Check.NOTHING;

    private static final int[] NO_BALCONIES = {-1, 12, 13, -12, 99, Integer.MIN_VALUE, Integer.MAX_VALUE, 1 << 16, -1 << 30};

    private static BalconyCensus filled() {
        BalconyCensus x = new BalconyCensus();
        x.cat(0);
        x.cat(5);
        x.greet(5, 0);
        x.greet(5, 2);
        x.greet(0, 5);
        x.day();
        x.greet(5, 2);
        x.plant(5, 7);
        x.plant(9, 8);
        x.bear(5, 1);
        x.hang(5, 3, 2);
        x.hang(11, 5, 2);
        x.hang(4, 6, 2);
        return x;
    }

    static void balconyOf() {
        Check.says("Promise 15", "Returns a number of a balcony.");
        int[][] rows = {{0, 3, 0, 0, 1, 1, 0, 32}, {0, 3, NOTHING, 2, 0, 0, 0, 0}, {0, 3, NOTHING, 0, 0, 2, 0, 0},
            {0, 3, NOTHING, 0, 0, 0, 1, 0}, {0, 3, NOTHING, 0, 0, 0, 1, 0}, {7, 1, 1, 2, 3, 1, 2, 1},
            {0, 3, NOTHING, 0, 0, 0, 1, 0}, {0, 3, NOTHING, 0, 0, 0, 0, 0}, {0, 3, NOTHING, 0, 0, 0, 0, 0},
            {8, 3, NOTHING, 2, 0, 0, 0, 0}, {0, 3, NOTHING, 0, 0, 0, 0, 0}, {0, 3, NOTHING, 0, 0, 0, 1, 0}};
        BalconyCensus x = filled();
        for (int balcony = 0; balcony < 12; balcony++) {
            for (int what = 0; what < 8; what++) {
                Check.due("balconyOf(" + balcony + ", " + what + ")", x.balconyOf(balcony, what), rows[balcony][what]);
            }
        }
    }

    static void balconyOfPlantsAndTolerance() {
        Check.says("Promise 15", "0 for its plants; 1 for its tolerance;");
        for (int balcony = 0; balcony < 12; balcony++) {
            BalconyCensus x = new BalconyCensus();
            Check.due("plants at first", x.balconyOf(balcony, 0), 0);
            Check.due("tolerance at first", x.balconyOf(balcony, 1), 3);
            x.plant(balcony, 9);
            x.bear(balcony, 0);
            Check.due("plants", x.balconyOf(balcony, 0), 9);
            Check.due("tolerance", x.balconyOf(balcony, 1), 0);
        }
    }

    static void balconyOfCat() {
        Check.says("Promise 15", "2 for the cat on it, NOTHING without one;");
        BalconyCensus x = new BalconyCensus();
        for (int balcony = 0; balcony < 12; balcony++) {
            Check.due("cat on " + balcony, x.balconyOf(balcony, 2), NOTHING);
        }
        for (int number = 0; number < 6; number++) {
            x.cat(number + 6);
            Check.due("cat on " + (number + 6), x.balconyOf(number + 6, 2), number);
        }
        x.swap(6, 0);
        Check.due("cat on 6", x.balconyOf(6, 2), NOTHING);
        Check.due("cat on 0", x.balconyOf(0, 2), 0);
    }

    static void balconyOfFeuds() {
        Check.says("Promise 15", "3 for the feuds in which it is;");
        BalconyCensus x = new BalconyCensus();
        x.plant(4, 9);
        Check.due("feuds of 4, with one below", x.balconyOf(4, 3), 1);
        x.plant(8, 9);
        Check.due("feuds of 0, with two above", x.balconyOf(0, 3), 2);
        Check.due("feuds of 4, with one above and one below", x.balconyOf(4, 3), 2);
        Check.due("feuds of 8, with two below", x.balconyOf(8, 3), 2);
        Check.due("feuds of 1", x.balconyOf(1, 3), 0);
        x.hang(4, 8, 1);
        Check.due("feuds of 4 with a line", x.balconyOf(4, 3), 1);
    }

    static void balconyOfGreetings() {
        Check.says("Promise 15", "4 for the greetings that it gave so far; 5 for those that it got so far;");
        BalconyCensus x = new BalconyCensus();
        x.greet(0, 11);
        x.greet(0, 10);
        x.greet(11, 0);
        x.day();
        x.greet(0, 11);
        Check.due("given by 0", x.balconyOf(0, 4), 3);
        Check.due("got by 0", x.balconyOf(0, 5), 1);
        Check.due("given by 11", x.balconyOf(11, 4), 1);
        Check.due("got by 11", x.balconyOf(11, 5), 2);
        Check.due("given by 10", x.balconyOf(10, 4), 0);
        Check.due("got by 10", x.balconyOf(10, 5), 1);
    }

    static void balconyOfLines() {
        Check.says("Promise 15", "6 for the laundry lines at it;");
        BalconyCensus x = new BalconyCensus();
        x.hang(0, 11, 1);
        x.hang(5, 0, 2);
        x.hang(0, 1, 3);
        Check.due("lines at 0", x.balconyOf(0, 6), 3);
        Check.due("lines at 11", x.balconyOf(11, 6), 1);
        Check.due("lines at 5", x.balconyOf(5, 6), 1);
        Check.due("lines at 2", x.balconyOf(2, 6), 0);
        x.day();
        Check.due("lines at 0 when one is gone", x.balconyOf(0, 6), 2);
        Check.due("lines at 11 when it is gone", x.balconyOf(11, 6), 0);
    }

    static void balconyOfFriends() {
        Check.says("Promise 15", "7 for the balconies with which it is friends, as a set, bit k for the balcony k");
        for (int friend = 0; friend < 12; friend++) {
            BalconyCensus x = new BalconyCensus();
            int one = (friend + 5) % 12;
            x.greet(one, friend);
            Check.due("friends of " + one + " from one side", x.balconyOf(one, 7), 0);
            x.greet(friend, one);
            Check.due("friends of " + one, x.balconyOf(one, 7), 1 << friend);
            Check.due("friends of " + friend, x.balconyOf(friend, 7), 1 << one);
        }
        BalconyCensus x = new BalconyCensus();
        for (int friend = 0; friend < 12; friend++) {
            x.greet(friend, 3);
            x.greet(3, friend);
        }
        Check.due("friends of 3 with all", x.balconyOf(3, 7), 4095 - 8);
    }

    static void balconyOfReturns() {
        Check.says("Promise 15", "Returns the number");
        BalconyCensus x = new BalconyCensus();
        int[] first = {0, 3, NOTHING, 0, 0, 0, 0, 0};
        for (int what = 0; what < 8; what++) {
            Check.due("balconyOf(11, " + what + ") at first", x.balconyOf(11, what), first[what]);
        }
    }

    static void balconyOfNone() {
        Check.says("Promise 15", "NONE if there is no such balcony");
        BalconyCensus x = filled();
        for (int balcony : NO_BALCONIES) {
            for (int what = -1; what <= 8; what++) {
                Check.due("balconyOf(" + balcony + ", " + what + ")", x.balconyOf(balcony, what), NONE);
            }
        }
    }

    static void balconyOfBad() {
        Check.says("Promise 15", "BAD if there is no such what.");
        BalconyCensus x = filled();
        int[] whats = {-1, 8, 9, Integer.MIN_VALUE, Integer.MAX_VALUE, 256};
        for (int what : whats) {
            Check.due("balconyOf(0, " + what + ")", x.balconyOf(0, what), BAD);
            Check.due("balconyOf(11, " + what + ")", x.balconyOf(11, what), BAD);
        }
    }

    static void feud() {
        Check.says("Promise 16", "Returns whether two balconies feud.");
        BalconyCensus x = new BalconyCensus();
        x.plant(8, 5);
        x.bear(0, 5);
        Check.due("feud(0, 8)", x.feud(0, 8), 0);
        Check.due("feud(4, 8)", x.feud(4, 8), 1);
    }

    static void feudReturns() {
        Check.says("Promise 16", "Returns 1 if they do, 0 otherwise");
        BalconyCensus x = new BalconyCensus();
        x.plant(10, 4);
        Check.due("feud(2, 10)", x.feud(2, 10), 1);
        Check.due("feud(10, 2)", x.feud(10, 2), 1);
        Check.due("feud(2, 6)", x.feud(2, 6), 0);
        Check.due("feud(10, 11)", x.feud(10, 11), 0);
        Check.due("feud(10, 10)", x.feud(10, 10), 0);
    }

    static void feudNone() {
        Check.says("Promise 16", "NONE if there is no such balcony, for either.");
        BalconyCensus x = new BalconyCensus();
        for (int balcony : NO_BALCONIES) {
            Check.due("feud(" + balcony + ", 0)", x.feud(balcony, 0), NONE);
            Check.due("feud(0, " + balcony + ")", x.feud(0, balcony), NONE);
            Check.due("feud(" + balcony + ", " + balcony + ")", x.feud(balcony, balcony), NONE);
        }
    }

    static void greeted() {
        Check.says("Promise 17", "Returns how often a balcony greeted another one so far.");
        BalconyCensus x = new BalconyCensus();
        x.greet(0, 11);
        x.day();
        x.greet(0, 11);
        x.greet(0, 11);
        Check.due("greeted(0, 11)", x.greeted(0, 11), 2);
        Check.due("greeted(11, 0)", x.greeted(11, 0), 0);
        Check.due("greeted(0, 10)", x.greeted(0, 10), 0);
        Check.due("greeted(1, 11)", x.greeted(1, 11), 0);
    }

    static void greetedReturns() {
        Check.says("Promise 17", "Returns how often;");
        BalconyCensus x = new BalconyCensus();
        for (int one = 0; one < 12; one++) {
            for (int other = 0; other < 12; other++) {
                Check.due("greeted(" + one + ", " + other + ") at first", x.greeted(one, other), 0);
            }
        }
        x.greet(7, 2);
        Check.due("greeted(7, 2)", x.greeted(7, 2), 1);
        Check.due("greeted(7, 7): itself", x.greeted(7, 7), 0);
    }

    static void greetedNone() {
        Check.says("Promise 17", "NONE if there is no such balcony, for either.");
        BalconyCensus x = new BalconyCensus();
        for (int balcony : NO_BALCONIES) {
            Check.due("greeted(" + balcony + ", 0)", x.greeted(balcony, 0), NONE);
            Check.due("greeted(0, " + balcony + ")", x.greeted(0, balcony), NONE);
            Check.due("greeted(" + balcony + ", " + balcony + ")", x.greeted(balcony, balcony), NONE);
        }
    }

    static void catOf() {
        Check.says("Promise 18", "Returns a number of a cat.");
        BalconyCensus x = filled();
        x.swap(0, 7);
        int[] of0 = {7, 0, 1, 4};
        int[] of1 = {5, 5, 0, 0};
        for (int what = 0; what < 4; what++) {
            Check.due("catOf(0, " + what + ")", x.catOf(0, what), of0[what]);
            Check.due("catOf(1, " + what + ")", x.catOf(1, what), of1[what]);
        }
    }

    static void catOfBalconyHomeSwaps() {
        Check.says("Promise 18", "0 for its balcony; 1 for its home; 2 for its swaps so far;");
        BalconyCensus x = new BalconyCensus();
        x.cat(11);
        for (int balcony = 10; balcony >= 0; balcony--) {
            x.swap(balcony + 1, balcony);
            Check.due("its balcony", x.catOf(0, 0), balcony);
            Check.due("its home", x.catOf(0, 1), 11);
            Check.due("its swaps", x.catOf(0, 2), 11 - balcony);
        }
    }

    static void catOfSteps() {
        Check.says("Promise 18", "3 for the fewest steps from its balcony to its home, NOTHING if there is no way");
        BalconyCensus x = new BalconyCensus();
        x.cat(0);
        Check.due("steps at home", x.catOf(0, 3), 0);
        x.swap(0, 11);
        Check.due("steps from 11", x.catOf(0, 3), 5);
        for (int balcony = 4; balcony < 7; balcony++) {
            x.plant(balcony, 4);
        }
        Check.due("steps by one column", x.catOf(0, 3), 5);
        x.plant(7, 4);
        Check.due("steps without a way", x.catOf(0, 3), NOTHING);
        x.hang(4, 0, 1);
        Check.due("steps by another column", x.catOf(0, 3), 5);
    }

    static void catOfReturns() {
        Check.says("Promise 18", "Returns the number");
        BalconyCensus x = new BalconyCensus();
        for (int number = 0; number < 6; number++) {
            x.cat(number + 2);
            Check.due("catOf(" + number + ", 0)", x.catOf(number, 0), number + 2);
        }
    }

    static void catOfNone() {
        Check.says("Promise 18", "NONE if there is no such cat");
        BalconyCensus x = new BalconyCensus();
        for (int cats = 0; cats <= 6; cats++) {
            for (int what = -1; what <= 4; what++) {
                Check.due("catOf(" + cats + ", " + what + ")", x.catOf(cats, what), NONE);
                Check.due("catOf(-1, " + what + ")", x.catOf(-1, what), NONE);
            }
            x.cat(cats);
        }
        Check.due("catOf(7, 0)", x.catOf(7, 0), NONE);
        Check.due("catOf of the greatest", x.catOf(Integer.MAX_VALUE, 3), NONE);
        Check.due("catOf of the least", x.catOf(Integer.MIN_VALUE, 3), NONE);
    }

    static void catOfBad() {
        Check.says("Promise 18", "BAD if there is no such what.");
        BalconyCensus x = new BalconyCensus();
        x.cat(0);
        int[] whats = {-1, 4, 5, Integer.MIN_VALUE, Integer.MAX_VALUE};
        for (int what : whats) {
            Check.due("catOf(0, " + what + ")", x.catOf(0, what), BAD);
        }
    }

    static void lineOf() {
        Check.says("Promise 19", "Returns a number of a laundry line.");
        BalconyCensus x = new BalconyCensus();
        x.hang(3, 1, 5);
        x.hang(0, 2, 7);
        int[][] rows = {{1, 3, 5}, {0, 2, 7}};
        for (int what = 0; what < 3; what++) {
            Check.due("lineOf(0, " + what + ")", x.lineOf(0, what), rows[0][what]);
            Check.due("lineOf(1, " + what + ")", x.lineOf(1, what), rows[1][what]);
        }
    }

    static void lineOfBalconiesAndDays() {
        Check.says("Promise 19", "0 for its lower balcony; 1 for the higher one; 2 for the days that it has left");
        BalconyCensus x = new BalconyCensus();
        x.hang(11, 0, 9);
        x.hang(4, 3, 2);
        x.hang(9, 10, 1);
        Check.due("lower one, told last", x.lineOf(0, 0), 0);
        Check.due("higher one, told first", x.lineOf(0, 1), 11);
        Check.due("lower one in a higher column", x.lineOf(1, 0), 3);
        Check.due("higher one in a lower column", x.lineOf(1, 1), 4);
        Check.due("lower one, told first", x.lineOf(2, 0), 9);
        Check.due("higher one, told last", x.lineOf(2, 1), 10);
        x.day();
        Check.due("days left of 9", x.lineOf(0, 2), 8);
        Check.due("days left of 2", x.lineOf(1, 2), 1);
    }

    static void lineOfReturns() {
        Check.says("Promise 19", "Returns the number");
        BalconyCensus x = new BalconyCensus();
        for (int number = 0; number < 6; number++) {
            x.hang(number, number + 1, number + 1);
            Check.due("lineOf(" + number + ", 0)", x.lineOf(number, 0), number);
            Check.due("lineOf(" + number + ", 1)", x.lineOf(number, 1), number + 1);
            Check.due("lineOf(" + number + ", 2)", x.lineOf(number, 2), number + 1);
        }
    }

    static void lineOfNone() {
        Check.says("Promise 19", "NONE if there is no such line");
        BalconyCensus x = new BalconyCensus();
        for (int lines = 0; lines <= 6; lines++) {
            for (int what = -1; what <= 3; what++) {
                Check.due("lineOf(" + lines + ", " + what + ")", x.lineOf(lines, what), NONE);
                Check.due("lineOf(-1, " + what + ")", x.lineOf(-1, what), NONE);
            }
            x.hang(lines, lines + 1, 1);
        }
        Check.due("lineOf of the greatest", x.lineOf(Integer.MAX_VALUE, 0), NONE);
        Check.due("lineOf of the least", x.lineOf(Integer.MIN_VALUE, 0), NONE);
        x.day();
        Check.due("lineOf(0, 0) when all are gone", x.lineOf(0, 0), NONE);
    }

    static void lineOfBad() {
        Check.says("Promise 19", "BAD if there is no such what.");
        BalconyCensus x = new BalconyCensus();
        x.hang(0, 1, 1);
        int[] whats = {-1, 3, 4, Integer.MIN_VALUE, Integer.MAX_VALUE};
        for (int what : whats) {
            Check.due("lineOf(0, " + what + ")", x.lineOf(0, what), BAD);
        }
    }

    static void meanPlants() {
        Check.says("Promise 37", "Returns the mean number of plants: the sum divided by 12, both converted to double.");
        BalconyCensus x = new BalconyCensus();
        Check.dueNumber("meanPlants() of nothing", x.meanPlants(), 0.0);
        x.plant(0, 1);
        Check.dueNumber("meanPlants() of 1", x.meanPlants(), 1.0 / 12.0);
        x.plant(5, 4);
        Check.dueNumber("meanPlants() of 5", x.meanPlants(), 5.0 / 12.0);
    }

    static void meanPlantsReturns() {
        Check.says("Promise 37", "Returns the mean.");
        BalconyCensus x = new BalconyCensus();
        for (int balcony = 0; balcony < 12; balcony++) {
            x.plant(balcony, 9);
            Check.dueNumber("meanPlants()", x.meanPlants(), (balcony + 1) * 9 / 12.0);
        }
    }

    static void homeShare() {
        Check.says("Promise 38", "Returns the share of the cats that are at home, both numbers converted to float.");
        BalconyCensus x = new BalconyCensus();
        x.cat(0);
        x.cat(1);
        x.cat(2);
        x.swap(0, 3);
        Check.dueNumber("homeShare() of 2 and 3", x.homeShare(), 2.0f / 3.0f);
        x.swap(1, 2);
        Check.dueNumber("homeShare() of 0 and 3", x.homeShare(), 0.0f);
        x.swap(3, 0);
        Check.dueNumber("homeShare() of 1 and 3", x.homeShare(), 1.0f / 3.0f);
    }

    static void homeShareReturns() {
        Check.says("Promise 38", "Returns the share");
        BalconyCensus x = new BalconyCensus();
        for (int number = 0; number < 6; number++) {
            x.cat(number);
            Check.dueNumber("homeShare() of all", x.homeShare(), 1.0f);
        }
        x.swap(5, 11);
        Check.dueNumber("homeShare() of 5 and 6", x.homeShare(), 5.0f / 6.0f);
    }

    static void homeShareWithoutCats() {
        Check.says("Promise 38", "0.0f without cats.");
        BalconyCensus x = new BalconyCensus();
        Check.dueNumber("homeShare() at first", x.homeShare(), 0.0f);
        x.cat(0);
        x.undo();
        Check.dueNumber("homeShare() when the cat is undone", x.homeShare(), 0.0f);
    }

    static void account() {
        Check.says("Promise 39", "Returns an account.");
        BalconyCensus x = new BalconyCensus();
        for (int what = 0; what <= 13; what++) {
            Check.due("account(" + what + ") at first", x.account(what), 0);
        }
    }

    static void accountOfWhatThereIs() {
        Check.says("Promise 39", "0 the plants; 1 the feuds; 2 the lines; 3 the cats; 4 the cats at home;");
        BalconyCensus x = new BalconyCensus();
        x.plant(8, 5);
        x.plant(1, 2);
        x.hang(0, 1, 1);
        x.hang(0, 2, 2);
        x.hang(0, 3, 2);
        x.cat(0);
        x.cat(1);
        x.cat(2);
        x.cat(3);
        x.swap(1, 7);
        int[] want = {7, 2, 3, 4, 3};
        for (int what = 0; what < 5; what++) {
            Check.due("account(" + what + ")", x.account(what), want[what]);
        }
        x.day();
        Check.due("lines when one is gone", x.account(2), 2);
        Check.due("plants a day later", x.account(0), 9);
        x.hang(0, 8, 1);
        Check.due("feuds with a line", x.account(1), 1);
    }

    static void accountOfDaysAndGreetings() {
        Check.says("Promise 39", "5 the days so far; 6 the greetings so far;");
        BalconyCensus x = new BalconyCensus();
        for (int day = 0; day < 15; day++) {
            x.greet(3, 4);
            x.greet(4, 3);
            x.greet(4, 3);
            Check.due("days", x.account(5), day);
            Check.due("greetings", x.account(6), day * 2 + 2);
            x.day();
        }
    }

    static void accountOfPlants() {
        Check.says("Promise 39", "7 the plants given so far; 8 the plants put so far; 9 the plants grown so far;");
        BalconyCensus x = new BalconyCensus();
        x.plant(0, 6);
        x.plant(1, 3);
        x.give(0, 2, 4);
        x.give(2, 0, 3);
        x.day();
        x.day();
        Check.due("plants given", x.account(7), 7);
        Check.due("plants put", x.account(8), 9);
        Check.due("plants grown", x.account(9), 6);
        x.plant(0, 9);
        x.give(0, 2, 9);
        Check.due("plants given behind refusals", x.account(7), 7);
        Check.due("plants put behind refusals", x.account(8), 9);
        x.wouldGrow(3);
        Check.due("plants grown behind wouldGrow", x.account(9), 6);
    }

    static void accountOfSwapsAndLines() {
        Check.says("Promise 39", "10 the swaps of all cats so far; 11 the lines hung so far;");
        BalconyCensus x = new BalconyCensus();
        x.cat(0);
        x.cat(1);
        x.swap(0, 1);
        x.swap(1, 9);
        Check.due("swaps", x.account(10), 3);
        for (int day = 0; day < 7; day++) {
            x.hang(0, 1, 1);
            x.hang(0, 1, 1);
            x.hang(1, 2, 1);
            Check.due("lines hung", x.account(11), day * 2 + 2);
            x.day();
        }
        Check.due("lines", x.account(2), 0);
    }

    static void accountOfInputAndChanges() {
        Check.says("Promise 39", "12 the characters of the input; 13 the changes that can be undone");
        BalconyCensus x = new BalconyCensus();
        for (int number = 1; number <= 61; number++) {
            x.append('d');
            x.day();
            Check.due("characters", x.account(12), number < 60 ? number : 60);
            Check.due("changes", x.account(13), number < 8 ? number : 8);
        }
        x.read();
        Check.due("characters behind read", x.account(12), 0);
        x.undo();
        Check.due("changes behind undo", x.account(13), 7);
        x.clear();
        Check.due("changes behind clear", x.account(13), 0);
    }

    static void accountReturns() {
        Check.says("Promise 39", "Returns the account");
        BalconyCensus x = new BalconyCensus();
        x.plant(0, 9);
        Check.due("account(0)", x.account(0), 9);
        Check.due("account(8)", x.account(8), 9);
        Check.due("account(13)", x.account(13), 1);
    }

    static void accountBad() {
        Check.says("Promise 39", "BAD if there is no such what.");
        BalconyCensus x = new BalconyCensus();
        int[] whats = {-1, 14, 15, Integer.MIN_VALUE, Integer.MAX_VALUE};
        for (int what : whats) {
            Check.due("account(" + what + ")", x.account(what), BAD);
        }
    }
}

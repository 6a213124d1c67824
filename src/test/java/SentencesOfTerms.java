/** The terms of the document, sentence by sentence, but for texts, reasons, changes and codes. */
final class SentencesOfTerms {
    private static final int NONE = Check.NONE;
    private static final int BAD = Check.BAD;
    private static final int REFUSED = Check.REFUSED;
    private static final int NOTHING = Check.NOTHING;

    private static final int[][] BELOW = {{}, {}, {}, {}, {0}, {1}, {2}, {3}, {0, 4}, {1, 5}, {2, 6}, {3, 7}};
    private static final int[][] BESIDE = {{1, 4}, {0, 2, 5}, {1, 3, 6}, {2, 7}, {0, 5, 8}, {1, 4, 6, 9}, {2, 5, 7, 10},
        {3, 6, 11}, {4, 9}, {5, 8, 10}, {6, 9, 11}, {7, 10}};

    private static boolean holds(int[] row, int number) {
        for (int one : row) {
            if (one == number) {
                return true;
            }
        }
        return false;
    }

    static void lifeOf512Calls() {
        Check.says("What it is", "An object is used for at most 512 calls after it has been made");
        BalconyCensus x = new BalconyCensus();
        for (int call = 1; call <= 510; call++) {
            Check.due("call " + call + ": day()", x.day(), 0);
        }
        Check.due("call 511: undo()", x.undo(), 7);
        Check.due("call 512: account(5)", x.account(5), 509);
    }

    static void numbersAreWhole() {
        Check.says("Terms", "All numbers are whole, but where it is said; divisions are rounded down.");
        BalconyCensus x = new BalconyCensus();
        x.plant(3, 1);
        x.plant(7, 2);
        Check.dueText("write(0): 3 / 4 is 0", Check.lineOf(x, x.write(0)), "0 0 0 1");
        Check.dueText("write(1): 7 / 4 is 1", Check.lineOf(x, x.write(1)), "0 0 0 2");
        Check.due("feud(4, 7): what is left of 4 is 0, of 7 it is 3", x.feud(4, 7), 0);
    }

    static void greetingsFromOneSide() {
        Check.says("Terms", "A greeting is counted from one side.");
        BalconyCensus x = new BalconyCensus();
        Check.due("greet(0, 1)", x.greet(0, 1), 1);
        Check.due("greeted(0, 1)", x.greeted(0, 1), 1);
        Check.due("greeted(1, 0)", x.greeted(1, 0), 0);
        Check.due("census()", x.census(), 1);
        Check.due("censusAgain()", x.censusAgain(), 1);
    }

    static void twelveBalconies() {
        Check.says("Terms", "There are 12 balconies, numbered from 0, 4 on each of the floors 0, 1 and 2: "
                + "the floor of a balcony is its number divided by 4, its column is what is left.");
        BalconyCensus x = new BalconyCensus();
        for (int balcony = 0; balcony < 12; balcony++) {
            Check.due("plant(" + balcony + ")", x.plant(balcony, 1 + balcony % 3), 1 + balcony % 3);
        }
        Check.due("plant(12, 1)", x.plant(12, 1), NONE);
        Check.due("plant(-1, 1)", x.plant(-1, 1), NONE);
        Check.dueText("write(0)", Check.lineOf(x, x.write(0)), "1 2 3 1");
        Check.dueText("write(1)", Check.lineOf(x, x.write(1)), "2 3 1 2");
        Check.dueText("write(2)", Check.lineOf(x, x.write(2)), "3 1 2 3");
        Check.due("write(3)", x.write(3), NONE);
    }

    static void aboveInColumn() {
        Check.says("Terms", "One balcony is above another one if it is in the same column, on a higher floor.");
        for (int upper = 0; upper < 12; upper++) {
            BalconyCensus x = new BalconyCensus();
            x.plant(upper, 9);
            for (int other = 0; other < 12; other++) {
                int want = holds(BELOW[upper], other) ? 1 : 0;
                Check.due("feud(" + upper + ", " + other + ") with plants on " + upper, x.feud(upper, other), want);
                Check.due("feud(" + other + ", " + upper + ") with plants on " + upper, x.feud(other, upper), want);
            }
        }
    }

    static void besideInColumnOrFloor() {
        Check.says("Terms", "Two balconies are beside each other if they are in the same column on floors next to each other, "
                + "or on the same floor in columns next to each other.");
        BalconyCensus x = new BalconyCensus();
        for (int one = 0; one < 12; one++) {
            for (int other = 0; other < 12; other++) {
                int want = holds(BESIDE[one], other) ? 1 : 0;
                Check.due("steps(" + one + ", " + other + ") is 1", x.steps(one, other) == 1 ? 1 : 0, want);
            }
        }
    }

    static void besideBySecondWay() {
        Check.says("Terms", "Two balconies are beside each other");
        BalconyCensus x = new BalconyCensus();
        for (int one = 0; one < 12; one++) {
            for (int other = 0; other < 12; other++) {
                int want = holds(BESIDE[one], other) ? 1 : 0;
                Check.due("stepsAgain(" + one + ", " + other + ") is 1", x.stepsAgain(one, other) == 1 ? 1 : 0, want);
            }
        }
    }

    static void plantsFrom0To9() {
        Check.says("Terms", "Each has 0 to 9 plants, at first none");
        for (int balcony = 0; balcony < 12; balcony++) {
            BalconyCensus x = new BalconyCensus();
            Check.due("plants of " + balcony + " at first", x.balconyOf(balcony, 0), 0);
            Check.due("plant(" + balcony + ", 9)", x.plant(balcony, 9), 9);
            Check.due("plant(" + balcony + ", 1) to 10", x.plant(balcony, 1), REFUSED);
            int other = (balcony + 1) % 12;
            Check.due("give(" + balcony + ") all", x.give(balcony, other, 9), 9);
            Check.due("plants of " + balcony + " then", x.balconyOf(balcony, 0), 0);
            Check.due("give(" + balcony + ") one more", x.give(balcony, other, 1), REFUSED);
            Check.due("day() with 9", x.day(), 0);
            Check.due("plants of " + other + " then", x.balconyOf(other, 0), 9);
        }
    }

    static void toleranceFrom0To9() {
        Check.says("Terms", "and a tolerance from 0 to 9, at first 3.");
        for (int balcony = 0; balcony < 12; balcony++) {
            BalconyCensus x = new BalconyCensus();
            Check.due("tolerance of " + balcony + " at first", x.balconyOf(balcony, 1), 3);
            Check.due("bear(" + balcony + ", 0)", x.bear(balcony, 0), 3);
            Check.due("bear(" + balcony + ", 9)", x.bear(balcony, 9), 0);
            Check.due("bear(" + balcony + ", 10)", x.bear(balcony, 10), BAD);
            Check.due("bear(" + balcony + ", -1)", x.bear(balcony, -1), BAD);
            Check.due("tolerance of " + balcony + " then", x.balconyOf(balcony, 1), 9);
        }
    }

    static void feudAboveTolerance() {
        Check.says("Terms", "Two balconies feud if one of them is above the other one "
                + "and has more plants than the tolerance of the other one is");
        for (int tolerance = 0; tolerance <= 9; tolerance++) {
            BalconyCensus x = new BalconyCensus();
            x.bear(2, tolerance);
            for (int plants = 0; plants <= 9; plants++) {
                String when = " with " + plants + " plants above tolerance " + tolerance;
                Check.due("feud(6, 2)" + when, x.feud(6, 2), plants > tolerance ? 1 : 0);
                x.plant(6, 1);
            }
        }
    }

    static void feudNotOfTheUpperOnesTolerance() {
        Check.says("Terms", "has more plants than the tolerance of the other one is");
        BalconyCensus x = new BalconyCensus();
        x.plant(2, 9);
        x.bear(6, 0);
        Check.due("feud(2, 6): the lower one has more", x.feud(2, 6), 0);
        x.plant(6, 1);
        Check.due("feud(2, 6): the upper one has little tolerance", x.feud(2, 6), 0);
    }

    static void feudNotWithLine() {
        Check.says("Terms", "and no laundry line is between both.");
        BalconyCensus x = new BalconyCensus();
        x.plant(10, 9);
        x.hang(2, 10, 1);
        Check.due("feud(2, 10) with a line", x.feud(2, 10), 0);
        Check.due("feud(10, 2) with a line", x.feud(10, 2), 0);
        x.day();
        Check.due("feud(2, 10) without the line", x.feud(2, 10), 1);
        x.hang(10, 2, 1);
        Check.due("feud(2, 10) with a line told from above", x.feud(2, 10), 0);
    }

    static void sixLines() {
        Check.says("Terms", "At most 6 laundry lines are there, numbered from 0");
        BalconyCensus x = new BalconyCensus();
        for (int number = 0; number < 6; number++) {
            Check.due("line " + number, x.hang(number, number + 6, 2), number);
        }
        Check.due("a seventh line", x.hang(0, 1, 2), REFUSED);
        Check.due("lines", x.account(2), 6);
        x.day();
        Check.due("a seventh line a day later", x.hang(0, 1, 2), REFUSED);
        x.day();
        Check.due("a line when all are gone", x.hang(0, 1, 2), 0);
    }

    static void linesBetweenUnlike() {
        Check.says("Terms", "each between two unlike balconies");
        BalconyCensus x = new BalconyCensus();
        for (int balcony = 0; balcony < 12; balcony++) {
            Check.due("hang(" + balcony + ", " + balcony + ", 1)", x.hang(balcony, balcony, 1), REFUSED);
        }
        Check.due("lines", x.account(2), 0);
        for (int number = 0; number < 6; number++) {
            Check.due("hang(" + number + ", " + (number + 1) + ", 1)", x.hang(number, number + 1, 1), number);
        }
    }

    static void linesFor1To9Days() {
        Check.says("Terms", "and for 1 to 9 days");
        for (int days = 1; days <= 9; days++) {
            BalconyCensus x = new BalconyCensus();
            Check.due("hang for " + days, x.hang(1, 2, days), 0);
            for (int day = 1; day < days; day++) {
                x.day();
                Check.due("days left of " + days, x.lineOf(0, 2), days - day);
            }
            x.day();
            Check.due("lines behind " + days + " days", x.account(2), 0);
        }
        BalconyCensus x = new BalconyCensus();
        Check.due("hang(1, 2, 0)", x.hang(1, 2, 0), BAD);
        Check.due("hang(1, 2, 10)", x.hang(1, 2, 10), BAD);
    }

    static void oneLineBetweenTwo() {
        Check.says("Terms", "between two balconies there is one at most.");
        BalconyCensus x = new BalconyCensus();
        Check.due("hang(4, 9, 2)", x.hang(4, 9, 2), 0);
        Check.due("hang(4, 9, 2) again", x.hang(4, 9, 2), REFUSED);
        Check.due("hang(9, 4, 2)", x.hang(9, 4, 2), REFUSED);
        Check.due("hang(4, 8, 2)", x.hang(4, 8, 2), 1);
        Check.due("hang(9, 8, 2)", x.hang(9, 8, 2), 2);
        Check.due("lines", x.account(2), 3);
    }

    static void laterLinesMoveUp() {
        Check.says("Terms", "When a line goes, the numbers of the later ones become 1 less.");
        BalconyCensus x = new BalconyCensus();
        x.hang(0, 1, 3);
        x.hang(0, 2, 1);
        x.hang(0, 3, 2);
        x.hang(0, 4, 1);
        x.hang(0, 5, 9);
        x.day();
        int[][] rest = {{1, 2}, {3, 1}, {5, 8}};
        Check.due("lines", x.account(2), 3);
        for (int number = 0; number < 3; number++) {
            Check.due("higher one of line " + number, x.lineOf(number, 1), rest[number][0]);
            Check.due("days of line " + number, x.lineOf(number, 2), rest[number][1]);
        }
        Check.due("line 3", x.lineOf(3, 1), NONE);
        Check.due("hang(5, 6, 1)", x.hang(5, 6, 1), 3);
    }

    static void greetOnceADay() {
        Check.says("Terms", "A balcony can greet another one once a day.");
        BalconyCensus x = new BalconyCensus();
        Check.due("greet(3, 8)", x.greet(3, 8), 1);
        Check.due("greet(3, 8) again", x.greet(3, 8), REFUSED);
        Check.due("greet(8, 3)", x.greet(8, 3), 1);
        Check.due("greet(3, 8) once more", x.greet(3, 8), REFUSED);
        x.day();
        Check.due("greet(3, 8) the next day", x.greet(3, 8), 2);
        Check.due("greet(3, 8) again", x.greet(3, 8), REFUSED);
    }

    static void greetingCountsForTheGiver() {
        Check.says("Terms", "Each greeting counts for the one that greets.");
        BalconyCensus x = new BalconyCensus();
        x.greet(11, 0);
        Check.due("given by 11", x.balconyOf(11, 4), 1);
        Check.due("given by 0", x.balconyOf(0, 4), 0);
        Check.due("got by 11", x.balconyOf(11, 5), 0);
        Check.due("got by 0", x.balconyOf(0, 5), 1);
        Check.due("kindest(0)", x.kindest(0), 11);
    }

    static void friendsSomeTime() {
        Check.says("Terms", "Two balconies are friends if each of them greeted the other one some time.");
        BalconyCensus x = new BalconyCensus();
        x.greet(0, 11);
        x.day();
        x.greet(0, 11);
        Check.due("friends of 0, from one side twice", x.balconyOf(0, 7), 0);
        Check.due("friends of 11, from one side twice", x.balconyOf(11, 7), 0);
        x.day();
        x.greet(11, 0);
        Check.due("friends of 0", x.balconyOf(0, 7), 1 << 11);
        Check.due("friends of 11", x.balconyOf(11, 7), 1);
        x.plant(8, 9);
        x.greet(8, 4);
        Check.due("friends of 4 in a feud", x.balconyOf(4, 7), 0);
    }

    static void friendsThatFeudStayFriends() {
        Check.says("Terms", "if each of them greeted the other one some time.");
        BalconyCensus x = new BalconyCensus();
        x.greet(0, 4);
        x.greet(4, 0);
        x.plant(4, 9);
        Check.due("feud(0, 4)", x.feud(0, 4), 1);
        Check.due("friends of 0", x.balconyOf(0, 7), 1 << 4);
        Check.due("circles()", x.circles(), 11);
    }

    private static void befriend(BalconyCensus x, int one, int other) {
        x.greet(one, other);
        x.greet(other, one);
    }

    static void circleOfFriends() {
        Check.says("Terms", "A circle is all balconies to which one comes by friends of friends");
        BalconyCensus x = new BalconyCensus();
        befriend(x, 11, 0);
        befriend(x, 0, 7);
        befriend(x, 7, 3);
        befriend(x, 3, 8);
        Check.due("circles() of a chain of five", x.circles(), 8);
        befriend(x, 8, 11);
        Check.due("circles() of a ring of five", x.circles(), 8);
        befriend(x, 1, 2);
        Check.due("circles() with two more", x.circles(), 7);
        befriend(x, 2, 3);
        Check.due("circles() grown together", x.circles(), 6);
        x.greet(4, 5);
        x.greet(5, 6);
        x.greet(6, 4);
        Check.due("circles() from one side", x.circles(), 6);
    }

    static void circleOfTheLongestChain() {
        Check.says("Terms", "all balconies to which one comes by friends of friends");
        int[] chain = {0, 11, 1, 10, 2, 9, 3, 8, 4, 7, 5, 6};
        BalconyCensus x = new BalconyCensus();
        for (int place = 1; place < 12; place++) {
            befriend(x, chain[place - 1], chain[place]);
            Check.due("circles() of a chain of " + (place + 1), x.circles(), 12 - place);
        }
    }

    static void circleWithoutFriends() {
        Check.says("Terms", "a balcony without friends is a circle by itself.");
        BalconyCensus x = new BalconyCensus();
        Check.due("circles() of 12 without friends", x.circles(), 12);
        for (int balcony = 1; balcony < 11; balcony++) {
            befriend(x, balcony, 11);
        }
        Check.due("circles() with 0 alone", x.circles(), 2);
    }

    static void sixCats() {
        Check.says("Terms", "At most 6 cats are there, numbered from 0, each on a balcony");
        BalconyCensus x = new BalconyCensus();
        for (int number = 0; number < 6; number++) {
            Check.due("cat " + number, x.cat(11 - number * 2), number);
            Check.due("balcony of cat " + number, x.catOf(number, 0), 11 - number * 2);
        }
        Check.due("a seventh cat", x.cat(0), REFUSED);
        Check.due("cats", x.account(3), 6);
    }

    static void oneCatOnABalcony() {
        Check.says("Terms", "on a balcony there is one at most.");
        BalconyCensus x = new BalconyCensus();
        Check.due("cat(5)", x.cat(5), 0);
        Check.due("cat(5) again", x.cat(5), REFUSED);
        x.swap(5, 6);
        Check.due("cat(5) when the first one is gone", x.cat(5), 1);
        Check.due("cat(6)", x.cat(6), REFUSED);
        Check.due("cats", x.account(3), 2);
    }

    static void homeIsWhereItCame() {
        Check.says("Terms", "The home of a cat is the balcony to which it came.");
        BalconyCensus x = new BalconyCensus();
        x.cat(2);
        Check.due("home at first", x.catOf(0, 1), 2);
        x.swap(2, 9);
        x.cat(2);
        x.swap(9, 0);
        Check.due("home behind swaps", x.catOf(0, 1), 2);
        Check.due("home of another one that came there", x.catOf(1, 1), 2);
    }

    static void swapsOfBoth() {
        Check.says("Terms", "When two balconies swap, each gets the cat of the other one, if that has one");
        BalconyCensus x = new BalconyCensus();
        x.cat(0);
        x.cat(1);
        Check.due("swap(0, 1)", x.swap(0, 1), 2);
        Check.due("cat on 0", x.balconyOf(0, 2), 1);
        Check.due("cat on 1", x.balconyOf(1, 2), 0);
        Check.due("swap(0, 2): the one has a cat", x.swap(0, 2), 1);
        Check.due("cat on 0", x.balconyOf(0, 2), NOTHING);
        Check.due("cat on 2", x.balconyOf(2, 2), 1);
        Check.due("swap(0, 1): the other one has a cat", x.swap(0, 1), 1);
        Check.due("cat on 0", x.balconyOf(0, 2), 0);
        Check.due("cat on 1", x.balconyOf(1, 2), NOTHING);
    }

    static void swapsAreCounted() {
        Check.says("Terms", "each cat that goes counts a swap.");
        BalconyCensus x = new BalconyCensus();
        x.cat(0);
        x.cat(1);
        x.cat(2);
        x.swap(0, 1);
        x.swap(1, 11);
        Check.due("swaps of cat 0", x.catOf(0, 2), 2);
        Check.due("swaps of cat 1", x.catOf(1, 2), 1);
        Check.due("swaps of cat 2", x.catOf(2, 2), 0);
        Check.due("swaps of all cats", x.account(10), 3);
    }

    static void stepsNotIntoFeuds() {
        Check.says("Terms", "A step of a cat leads to a balcony beside it that does not feud with that one.");
        BalconyCensus x = new BalconyCensus();
        x.plant(5, 4);
        Check.due("steps(1, 5) up, in a feud", x.steps(1, 5), 3);
        Check.due("steps(5, 1) down, in a feud", x.steps(5, 1), 3);
        Check.due("stepsAgain(1, 5)", x.stepsAgain(1, 5), 3);
        Check.due("stepsAgain(5, 1)", x.stepsAgain(5, 1), 3);
        Check.due("steps(4, 5) beside on the floor", x.steps(4, 5), 1);
        x.hang(1, 5, 1);
        Check.due("steps(1, 5) with a line", x.steps(1, 5), 1);
        x.plant(8, 4);
        x.bear(4, 4);
        Check.due("feud(0, 8)", x.feud(0, 8), 1);
        Check.due("steps(0, 8): not beside each other", x.steps(0, 8), 2);
        Check.due("stepsAgain(0, 8): not beside each other", x.stepsAgain(0, 8), 2);
    }

    private static void dueWay(BalconyCensus x, int... way) {
        int last = way.length - 1;
        for (int place = 0; place <= last; place++) {
            Check.due("way(" + way[0] + ", " + way[last] + ", " + place + ")", x.way(way[0], way[last], place), way[place]);
        }
        Check.due("way(" + way[0] + ", " + way[last] + ", " + way.length + ")", x.way(way[0], way[last], way.length), NOTHING);
    }

    static void wayByLowerBalconies() {
        Check.says("Terms", "The way told of several with the fewest steps is the one with the lower balcony "
                + "at the first place at which they are unlike.");
        BalconyCensus x = new BalconyCensus();
        dueWay(x, 0, 1, 5);
        dueWay(x, 5, 1, 0);
        dueWay(x, 8, 4, 0, 1, 2, 3);
        dueWay(x, 3, 2, 1, 0, 4, 8);
        dueWay(x, 11, 7, 3, 2, 1, 0);
        dueWay(x, 2, 1, 0, 4);
        x.plant(4, 4);
        dueWay(x, 2, 1, 5, 4);
        x.plant(5, 4);
        dueWay(x, 2, 6, 5, 4);
        dueWay(x, 4, 5, 6, 2);
        dueWay(x, 9, 5, 6, 2, 1);
    }

    static void daysFrom0() {
        Check.says("Terms", "Days are counted from 0.");
        BalconyCensus x = new BalconyCensus();
        Check.due("days at first", x.account(5), 0);
        x.day();
        Check.due("days", x.account(5), 1);
        x.day();
        Check.due("days", x.account(5), 2);
    }

    static void growingFrom1To8() {
        Check.says("Terms", "When a day ends, a balcony with 1 to 8 plants gets one more");
        for (int plants = 0; plants <= 9; plants++) {
            BalconyCensus x = new BalconyCensus();
            if (plants > 0) {
                x.plant(6, plants);
            }
            boolean isGrowing = plants >= 1 && plants <= 8;
            Check.due("day() with " + plants, x.day(), isGrowing ? 1 : 0);
            Check.due("plants then", x.balconyOf(6, 0), isGrowing ? plants + 1 : plants);
        }
    }

    static void growingBelowOthers() {
        Check.says("Terms", "if no balcony above it has more plants than it");
        int[][] rows = {{5, 4, 0, 2}, {5, 5, 0, 2}, {5, 6, 0, 1}, {5, 0, 5, 2}, {5, 0, 6, 1}, {5, 4, 6, 1}, {5, 6, 4, 2},
            {5, 7, 6, 2}, {5, 5, 5, 3}, {9, 8, 7, 2}, {7, 8, 9, 0}, {1, 1, 0, 2}, {8, 9, 0, 0}};
        for (int[] row : rows) {
            BalconyCensus x = new BalconyCensus();
            for (int floor = 0; floor < 3; floor++) {
                if (row[floor] > 0) {
                    x.plant(3 + floor * 4, row[floor]);
                }
            }
            Check.due("day() with " + row[0] + ", " + row[1] + " and " + row[2], x.day(), row[3]);
        }
        BalconyCensus x = new BalconyCensus();
        x.plant(0, 1);
        x.plant(1, 9);
        x.plant(5, 9);
        x.plant(7, 9);
        Check.due("day() with more in other columns", x.day(), 1);
    }

    static void growingAsItIsAhead() {
        Check.says("Terms", "all as it is ahead of that;");
        BalconyCensus x = new BalconyCensus();
        x.plant(0, 4);
        x.plant(4, 4);
        x.plant(8, 4);
        Check.due("day() with alike ones", x.day(), 3);
        Check.dueText("plants", "" + x.balconyOf(0, 0) + x.balconyOf(4, 0) + x.balconyOf(8, 0), "555");
        x.clear();
        x.plant(0, 4);
        x.plant(4, 5);
        x.plant(8, 9);
        Check.due("day() with more above", x.day(), 0);
    }

    static void linesLoseADay() {
        Check.says("Terms", "then each line has a day less, and goes if it has none left;");
        BalconyCensus x = new BalconyCensus();
        x.hang(0, 1, 1);
        x.hang(0, 2, 2);
        x.hang(3, 2, 9);
        x.day();
        Check.due("lines", x.account(2), 2);
        Check.due("days of line 0", x.lineOf(0, 2), 1);
        Check.due("days of line 1", x.lineOf(1, 2), 8);
        x.day();
        Check.due("lines", x.account(2), 1);
        Check.due("days of line 0", x.lineOf(0, 2), 7);
    }

    static void nobodyHasGreetedOnTheNextDay() {
        Check.says("Terms", "then the next day begins, and nobody has greeted in it.");
        BalconyCensus x = new BalconyCensus();
        for (int balcony = 0; balcony < 12; balcony++) {
            x.greet(balcony, (balcony + 1) % 12);
        }
        x.day();
        for (int balcony = 0; balcony < 12; balcony++) {
            Check.due("greet of " + balcony + " the next day", x.greet(balcony, (balcony + 1) % 12), 2);
        }
    }

    static void feudsRefuse() {
        Check.says("Terms", "Balconies that feud cannot greet, give, or swap.");
        BalconyCensus x = new BalconyCensus();
        x.plant(4, 5);
        x.plant(0, 5);
        x.cat(0);
        x.cat(4);
        int[][] both = {{0, 4}, {4, 0}};
        for (int[] pair : both) {
            int one = pair[0];
            int other = pair[1];
            Check.dueRefusal(x, "greet(" + one + ", " + other + ")", x.greet(one, other), 5, 4);
            Check.dueRefusal(x, "give(" + one + ", " + other + ", 1)", x.give(one, other, 1), 5, 4);
            Check.dueRefusal(x, "swap(" + one + ", " + other + ")", x.swap(one, other), 5, 4);
        }
        Check.due("greet(0, 8): they do not feud", x.greet(0, 8), 1);
        Check.due("hang(0, 4, 1): a feud does not matter", x.hang(0, 4, 1), 0);
    }

    static void leastPlantsTooMany() {
        Check.says("Terms", "The plants that are too many are how many would have to go, at least, so that nobody feuds, "
                + "tolerances and lines as they are.");
        BalconyCensus x = new BalconyCensus();
        x.plant(8, 9);
        x.bear(0, 7);
        x.bear(4, 2);
        Check.due("excess() by the lesser tolerance below", x.excess(), 7);
        Check.due("excessAgain()", x.excessAgain(), 7);
        x.plant(4, 9);
        Check.due("excess() of two balconies", x.excess(), 9);
        Check.due("excessAgain()", x.excessAgain(), 9);
        x.hang(4, 8, 1);
        Check.due("excess() with a line", x.excess(), 4);
        Check.due("excessAgain() with a line", x.excessAgain(), 4);
        x.bear(0, 9);
        Check.due("excess() when nobody feuds", x.excess(), 0);
        Check.due("excessAgain() when nobody feuds", x.excessAgain(), 0);
    }

    static void lineEndsOneFeudAlone() {
        Check.says("Terms", "A line ends feuds of its two balconies alone.");
        BalconyCensus x = new BalconyCensus();
        x.plant(4, 9);
        x.plant(8, 9);
        x.plant(5, 9);
        x.hang(0, 8, 3);
        Check.due("feud(0, 8)", x.feud(0, 8), 0);
        Check.due("feud(4, 8)", x.feud(4, 8), 1);
        Check.due("feud(0, 4)", x.feud(0, 4), 1);
        Check.due("feud(1, 5)", x.feud(1, 5), 1);
        x.hang(4, 1, 3);
        Check.due("feud(0, 4) with a line to another column", x.feud(0, 4), 1);
        Check.due("feuds()", x.feuds(), 3);
        Check.due("feudsAgain()", x.feudsAgain(), 3);
    }

    static void catsGoOverCats() {
        Check.says("Terms", "Cats go over balconies with other cats, too.");
        BalconyCensus x = new BalconyCensus();
        x.cat(0);
        x.cat(1);
        x.cat(4);
        x.cat(5);
        Check.due("steps(0, 5)", x.steps(0, 5), 2);
        Check.due("stepsAgain(0, 5)", x.stepsAgain(0, 5), 2);
        Check.due("way(0, 5, 1)", x.way(0, 5, 1), 1);
        x.swap(0, 6);
        Check.due("steps of cat 0 home", x.catOf(0, 3), 3);
    }

    static void earlierGreetingsStay() {
        Check.says("Terms", "Greetings of earlier days stay counted.");
        BalconyCensus x = new BalconyCensus();
        for (int day = 0; day < 20; day++) {
            Check.due("greet(1, 2) on day " + day, x.greet(1, 2), day + 1);
            x.day();
        }
        Check.due("greeted(1, 2)", x.greeted(1, 2), 20);
        Check.due("account(6)", x.account(6), 20);
    }

    static void severalLinesOfOne() {
        Check.says("Terms", "A balcony can have several lines,");
        BalconyCensus x = new BalconyCensus();
        for (int number = 0; number < 6; number++) {
            Check.due("line " + number + " of 5", x.hang(5, number + 6, 1), number);
        }
        Check.due("lines at 5", x.balconyOf(5, 6), 6);
    }

    static void greetEachOther() {
        Check.says("Terms", "and greet each other one once a day.");
        BalconyCensus x = new BalconyCensus();
        for (int greeting = 0; greeting < 11 * 12; greeting++) {
            int one = greeting / 11;
            int other = (one + 1 + greeting % 11) % 12;
            Check.due("greet(" + one + ", " + other + ")", x.greet(one, other), 1);
        }
        for (int greeting = 0; greeting < 11 * 12; greeting++) {
            int one = greeting / 11;
            int other = (one + 1 + greeting % 11) % 12;
            Check.due("greet(" + one + ", " + other + ") again", x.greet(one, other), REFUSED);
        }
        Check.due("census()", x.census(), 132);
        Check.due("friends of 6", x.balconyOf(6, 7), 4095 - 64);
    }

    static void secondLineWhateverDays() {
        Check.says("Terms", "A second line between two balconies is refused whatever days are told.");
        BalconyCensus x = new BalconyCensus();
        x.hang(7, 2, 4);
        for (int days = 1; days <= 9; days++) {
            Check.dueRefusal(x, "hang(7, 2, " + days + ")", x.hang(7, 2, days), 3, 4);
            Check.dueRefusal(x, "hang(2, 7, " + days + ")", x.hang(2, 7, days), 3, 4);
        }
        Check.due("days left", x.lineOf(0, 2), 4);
        Check.due("hang(2, 7, 10): BAD is named first", x.hang(2, 7, 10), BAD);
        Check.due("hang(2, 7, 0): BAD is named first", x.hang(2, 7, 0), BAD);
    }

    static void feudsDoNotHinderGrowing() {
        Check.says("Terms", "Feuds do not matter for growing.");
        BalconyCensus x = new BalconyCensus();
        x.plant(0, 6);
        x.plant(4, 5);
        Check.due("feud(0, 4)", x.feud(0, 4), 1);
        Check.due("day()", x.day(), 2);
        x.hang(0, 4, 9);
        x.plant(8, 8);
        x.hang(0, 8, 9);
        x.hang(4, 8, 9);
        Check.due("feuds()", x.feuds(), 0);
        Check.due("day() without feuds, but with more above", x.day(), 1);
    }

    static void constants() {
        Check.says("Terms", "`NONE = -1`: There is no such number.");
        Check.due("NONE", BalconyCensus.NONE, -1);
        Check.due("balconyOf(12, 0)", new BalconyCensus().balconyOf(12, 0), -1);
        Check.says("Terms", "`BAD = -2`: A number is out of range, or a text has a fault.");
        Check.due("BAD", BalconyCensus.BAD, -2);
        Check.due("wouldGrow(21)", new BalconyCensus().wouldGrow(21), -2);
        Check.due("read()", new BalconyCensus().read(), -2);
        Check.says("Terms", "`REFUSED = -3`: It is refused for a reason.");
        Check.due("REFUSED", BalconyCensus.REFUSED, -3);
        Check.due("greet(0, 0)", new BalconyCensus().greet(0, 0), -3);
        Check.says("Terms", "`NOTHING = -4`: There is nothing of this kind.");
        Check.due("NOTHING", BalconyCensus.NOTHING, -4);
        Check.due("undo()", new BalconyCensus().undo(), -4);
    }
}

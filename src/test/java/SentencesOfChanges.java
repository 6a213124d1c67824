/** Promises 4 to 11, the changes, sentence by sentence. */
final class SentencesOfChanges {
    private static final int NONE = Check.NONE;
    private static final int BAD = Check.BAD;
    private static final int NOTHING = Check.NOTHING;

    /** Numbers that are no balcony: beside the range, far from it, and such as would wrap round. */
    private static final int[] NO_BALCONIES = {-1, 12, 13, -12, 99, Integer.MIN_VALUE, Integer.MAX_VALUE, 1 << 16, -1 << 30};
    /** Numbers that are not from 1 to 9. */
    private static final int[] OUT_OF_RANGE = {0, 10, -1, -9, 100, 257, Integer.MIN_VALUE, Integer.MAX_VALUE, Integer.MIN_VALUE + 5};

    static void plant() {
        Check.says("Promise 4", "Puts plants on a balcony.");
        for (int balcony = 0; balcony < 12; balcony++) {
            BalconyCensus x = new BalconyCensus();
            x.plant(balcony, 2);
            Check.due("plants of " + balcony, x.balconyOf(balcony, 0), 2);
            Check.due("plants of all", x.account(0), 2);
            Check.due("plants put", x.account(8), 2);
            Check.due("plants given", x.account(7), 0);
            Check.due("plants grown", x.account(9), 0);
        }
    }

    static void plantFrom1To9() {
        Check.says("Promise 4", "`more`: how many, from 1 to 9");
        for (int more = 1; more <= 9; more++) {
            Check.due("plant(6, " + more + ")", new BalconyCensus().plant(6, more), more);
        }
        Check.due("plant(6, 0)", new BalconyCensus().plant(6, 0), BAD);
        Check.due("plant(6, 10)", new BalconyCensus().plant(6, 10), BAD);
    }

    static void plantReturns() {
        Check.says("Promise 4", "Returns how many it has then");
        BalconyCensus x = new BalconyCensus();
        Check.due("plant(0, 1)", x.plant(0, 1), 1);
        Check.due("plant(1, 4)", x.plant(1, 4), 4);
        Check.due("plant(0, 7)", x.plant(0, 7), 8);
        Check.due("plant(0, 1)", x.plant(0, 1), 9);
    }

    static void plantNone() {
        Check.says("Promise 4", "NONE if there is no such balcony");
        BalconyCensus x = new BalconyCensus();
        for (int balcony : NO_BALCONIES) {
            Check.due("plant(" + balcony + ", 1)", x.plant(balcony, 1), NONE);
            Check.due("plant(" + balcony + ", 0)", x.plant(balcony, 0), NONE);
        }
        Check.due("plants", x.account(0), 0);
    }

    static void plantBad() {
        Check.says("Promise 4", "BAD if the number is out of range");
        BalconyCensus x = new BalconyCensus();
        x.plant(3, 9);
        for (int more : OUT_OF_RANGE) {
            Check.due("plant(0, " + more + ")", x.plant(0, more), BAD);
            Check.due("plant(3, " + more + ") on 9", x.plant(3, more), BAD);
        }
        Check.due("plants", x.account(0), 9);
        Check.due("reason(0, false)", x.reason(0, false), NOTHING);
    }

    static void plantRefused() {
        Check.says("Promise 4", "REFUSED for 4.");
        for (int plants = 1; plants <= 9; plants++) {
            for (int more = 1; more <= 9; more++) {
                BalconyCensus x = new BalconyCensus();
                x.plant(2, plants);
                String call = "plant(2, " + more + ") on " + plants;
                if (plants + more > 9) {
                    Check.dueRefusal(x, call, x.plant(2, more), 4, plants);
                    Check.due("plants then", x.balconyOf(2, 0), plants);
                } else {
                    Check.due(call, x.plant(2, more), plants + more);
                }
            }
        }
    }

    static void bear() {
        Check.says("Promise 5", "Tells the tolerance of a balcony.");
        for (int balcony = 0; balcony < 12; balcony++) {
            BalconyCensus x = new BalconyCensus();
            x.bear(balcony, 8);
            for (int other = 0; other < 12; other++) {
                Check.due("tolerance of " + other, x.balconyOf(other, 1), other == balcony ? 8 : 3);
            }
        }
    }

    static void bearReturns() {
        Check.says("Promise 5", "Returns the one before");
        BalconyCensus x = new BalconyCensus();
        Check.due("bear(5, 9)", x.bear(5, 9), 3);
        Check.due("bear(5, 0)", x.bear(5, 0), 9);
        Check.due("bear(5, 1)", x.bear(5, 1), 0);
        Check.due("bear(4, 1)", x.bear(4, 1), 3);
    }

    static void bearNone() {
        Check.says("Promise 5", "NONE if there is no such balcony");
        for (int balcony : NO_BALCONIES) {
            Check.due("bear(" + balcony + ", 1)", new BalconyCensus().bear(balcony, 1), NONE);
            Check.due("bear(" + balcony + ", 10)", new BalconyCensus().bear(balcony, 10), NONE);
        }
    }

    static void bearBad() {
        Check.says("Promise 5", "BAD if the tolerance is out of range");
        BalconyCensus x = new BalconyCensus();
        int[] tolerances = {-1, 10, 11, -10, Integer.MIN_VALUE, Integer.MAX_VALUE, 256 + 5};
        for (int tolerance : tolerances) {
            Check.due("bear(0, " + tolerance + ")", x.bear(0, tolerance), BAD);
        }
        Check.due("bear(0, 0)", x.bear(0, 0), 3);
        Check.due("bear(0, 9)", x.bear(0, 9), 0);
    }

    static void bearRefused() {
        Check.says("Promise 5", "REFUSED for 3.");
        BalconyCensus x = new BalconyCensus();
        Check.dueRefusal(x, "bear(8, 3) at first", x.bear(8, 3), 3, 3);
        x.bear(8, 0);
        Check.dueRefusal(x, "bear(8, 0)", x.bear(8, 0), 3, 0);
        x.bear(8, 9);
        Check.dueRefusal(x, "bear(8, 9)", x.bear(8, 9), 3, 9);
        Check.due("bear(8, 3)", x.bear(8, 3), 9);
    }

    static void hang() {
        Check.says("Promise 6", "Hangs a laundry line.");
        BalconyCensus x = new BalconyCensus();
        x.hang(9, 4, 7);
        Check.due("lines", x.account(2), 1);
        Check.due("lines hung", x.account(11), 1);
        Check.due("lower one", x.lineOf(0, 0), 4);
        Check.due("higher one", x.lineOf(0, 1), 9);
        Check.due("days", x.lineOf(0, 2), 7);
        Check.due("lines at 4", x.balconyOf(4, 6), 1);
        Check.due("lines at 9", x.balconyOf(9, 6), 1);
        Check.due("lines at 5", x.balconyOf(5, 6), 0);
    }

    static void hangReturns() {
        Check.says("Promise 6", "Returns its number");
        BalconyCensus x = new BalconyCensus();
        Check.due("the first line", x.hang(0, 11, 1), 0);
        Check.due("the second line", x.hang(11, 1, 2), 1);
        x.day();
        Check.due("a line when one is gone", x.hang(0, 11, 1), 1);
    }

    static void hangNone() {
        Check.says("Promise 6", "NONE if there is no such balcony, for either");
        BalconyCensus x = new BalconyCensus();
        for (int balcony : NO_BALCONIES) {
            Check.due("hang(" + balcony + ", 0, 1)", x.hang(balcony, 0, 1), NONE);
            Check.due("hang(0, " + balcony + ", 1)", x.hang(0, balcony, 1), NONE);
            Check.due("hang(" + balcony + ", " + balcony + ", 0)", x.hang(balcony, balcony, 0), NONE);
        }
    }

    static void hangBad() {
        Check.says("Promise 6", "BAD if the days are out of range");
        BalconyCensus x = new BalconyCensus();
        for (int days : OUT_OF_RANGE) {
            Check.due("hang(0, 1, " + days + ")", x.hang(0, 1, days), BAD);
            Check.due("hang(1, 1, " + days + ")", x.hang(1, 1, days), BAD);
        }
        Check.due("hang(0, 1, 1)", x.hang(0, 1, 1), 0);
        Check.due("hang(0, 2, 9)", x.hang(0, 2, 9), 1);
    }

    static void hangRefused() {
        Check.says("Promise 6", "REFUSED for 2, 3 or 1.");
        BalconyCensus x = new BalconyCensus();
        Check.dueRefusal(x, "for 2", x.hang(3, 3, 5), 2, 3);
        x.hang(3, 4, 5);
        Check.dueRefusal(x, "for 3", x.hang(4, 3, 5), 3, 5);
        for (int other = 5; other < 10; other++) {
            x.hang(3, other, 6);
        }
        Check.dueRefusal(x, "for 1", x.hang(3, 10, 5), 1, 6);
        Check.dueRefusal(x, "for 3 ahead of 1", x.hang(3, 9, 5), 3, 6);
        Check.dueRefusal(x, "for 2 ahead of 1", x.hang(0, 0, 5), 2, 0);
        Check.due("lines hung", x.account(11), 6);
    }

    static void greet() {
        Check.says("Promise 7", "Lets a balcony greet another one.");
        BalconyCensus x = new BalconyCensus();
        x.greet(10, 3);
        Check.due("greeted(10, 3)", x.greeted(10, 3), 1);
        Check.due("greeted(3, 10)", x.greeted(3, 10), 0);
        Check.due("greetings", x.account(6), 1);
    }

    static void greetReturns() {
        Check.says("Promise 7", "Returns how often it greeted that one so far");
        BalconyCensus x = new BalconyCensus();
        Check.due("greet(1, 2)", x.greet(1, 2), 1);
        Check.due("greet(1, 3)", x.greet(1, 3), 1);
        Check.due("greet(2, 1)", x.greet(2, 1), 1);
        Check.due("greet(3, 2)", x.greet(3, 2), 1);
        x.day();
        Check.due("greet(1, 2) the next day", x.greet(1, 2), 2);
        x.day();
        x.day();
        Check.due("greet(1, 2) days later", x.greet(1, 2), 3);
        Check.due("greet(1, 3) days later", x.greet(1, 3), 2);
    }

    static void greetNone() {
        Check.says("Promise 7", "NONE if there is no such balcony, for either");
        BalconyCensus x = new BalconyCensus();
        for (int balcony : NO_BALCONIES) {
            Check.due("greet(" + balcony + ", 0)", x.greet(balcony, 0), NONE);
            Check.due("greet(0, " + balcony + ")", x.greet(0, balcony), NONE);
            Check.due("greet(" + balcony + ", " + balcony + ")", x.greet(balcony, balcony), NONE);
        }
    }

    static void greetRefused() {
        Check.says("Promise 7", "REFUSED for 2, 5 or 7.");
        BalconyCensus x = new BalconyCensus();
        Check.dueRefusal(x, "for 2", x.greet(0, 0), 2, 0);
        x.greet(1, 9);
        Check.dueRefusal(x, "for 7", x.greet(1, 9), 7, 1);
        x.plant(9, 4);
        Check.dueRefusal(x, "for 5 ahead of 7", x.greet(1, 9), 5, 9);
        Check.dueRefusal(x, "for 5", x.greet(9, 1), 5, 9);
        Check.due("greetings", x.account(6), 1);
    }

    static void give() {
        Check.says("Promise 8", "Lets a balcony give another one plants.");
        BalconyCensus x = new BalconyCensus();
        x.plant(0, 9);
        x.give(0, 11, 4);
        Check.due("plants of 0", x.balconyOf(0, 0), 5);
        Check.due("plants of 11", x.balconyOf(11, 0), 4);
        Check.due("plants of all", x.account(0), 9);
        Check.due("plants given", x.account(7), 4);
        Check.due("plants put", x.account(8), 9);
    }

    static void giveFrom1To9() {
        Check.says("Promise 8", "`plants`: how many, from 1 to 9");
        for (int plants = 1; plants <= 9; plants++) {
            BalconyCensus x = new BalconyCensus();
            x.plant(6, 9);
            Check.due("give(6, 7, " + plants + ")", x.give(6, 7, plants), plants);
            Check.due("plants of 6", x.balconyOf(6, 0), 9 - plants);
        }
        Check.due("give(6, 7, 0)", new BalconyCensus().give(6, 7, 0), BAD);
        Check.due("give(6, 7, 10)", new BalconyCensus().give(6, 7, 10), BAD);
    }

    static void giveReturns() {
        Check.says("Promise 8", "Returns how many the other one has then");
        BalconyCensus x = new BalconyCensus();
        x.plant(0, 9);
        x.plant(1, 2);
        Check.due("give(0, 1, 3)", x.give(0, 1, 3), 5);
        Check.due("give(0, 1, 4)", x.give(0, 1, 4), 9);
        Check.due("give(0, 2, 2)", x.give(0, 2, 2), 2);
    }

    static void giveNone() {
        Check.says("Promise 8", "NONE if there is no such balcony, for either");
        BalconyCensus x = new BalconyCensus();
        for (int balcony : NO_BALCONIES) {
            Check.due("give(" + balcony + ", 0, 1)", x.give(balcony, 0, 1), NONE);
            Check.due("give(0, " + balcony + ", 1)", x.give(0, balcony, 1), NONE);
            Check.due("give(" + balcony + ", " + balcony + ", 0)", x.give(balcony, balcony, 0), NONE);
        }
    }

    static void giveBad() {
        Check.says("Promise 8", "BAD if the number is out of range");
        BalconyCensus x = new BalconyCensus();
        x.plant(0, 5);
        for (int plants : OUT_OF_RANGE) {
            Check.due("give(0, 1, " + plants + ")", x.give(0, 1, plants), BAD);
            Check.due("give(1, 1, " + plants + ")", x.give(1, 1, plants), BAD);
        }
        Check.due("plants of 0", x.balconyOf(0, 0), 5);
    }

    static void giveRefused() {
        Check.says("Promise 8", "REFUSED for 2, 5, 6 or 4.");
        BalconyCensus x = new BalconyCensus();
        x.plant(0, 3);
        x.plant(8, 8);
        Check.dueRefusal(x, "for 2", x.give(0, 0, 1), 2, 0);
        Check.dueRefusal(x, "for 2 ahead of 6", x.give(0, 0, 9), 2, 0);
        Check.dueRefusal(x, "for 5", x.give(0, 8, 1), 5, 8);
        Check.dueRefusal(x, "for 5 ahead of 6 and 4", x.give(0, 8, 9), 5, 8);
        Check.dueRefusal(x, "for 6", x.give(0, 1, 4), 6, 3);
        x.hang(0, 8, 9);
        Check.dueRefusal(x, "for 6 ahead of 4", x.give(0, 8, 4), 6, 3);
        Check.dueRefusal(x, "for 4", x.give(0, 8, 2), 4, 8);
        Check.dueRefusal(x, "for 4 on the other side", x.give(8, 0, 7), 4, 3);
        Check.due("give(0, 8, 1)", x.give(0, 8, 1), 9);
        Check.due("plants given", x.account(7), 1);
    }

    static void cat() {
        Check.says("Promise 9", "Lets a cat come to a balcony.");
        BalconyCensus x = new BalconyCensus();
        x.cat(8);
        Check.due("cat on 8", x.balconyOf(8, 2), 0);
        Check.due("cats", x.account(3), 1);
        Check.due("its balcony", x.catOf(0, 0), 8);
        Check.due("its home", x.catOf(0, 1), 8);
        Check.due("its swaps", x.catOf(0, 2), 0);
    }

    static void catReturns() {
        Check.says("Promise 9", "Returns its number");
        BalconyCensus x = new BalconyCensus();
        for (int number = 0; number < 6; number++) {
            Check.due("cat(" + (number * 2 + 1) + ")", x.cat(number * 2 + 1), number);
        }
    }

    static void catNone() {
        Check.says("Promise 9", "NONE if there is no such balcony");
        BalconyCensus x = new BalconyCensus();
        for (int balcony : NO_BALCONIES) {
            Check.due("cat(" + balcony + ")", x.cat(balcony), NONE);
        }
        for (int number = 0; number < 6; number++) {
            x.cat(number);
        }
        Check.due("cat(12) with 6 cats", x.cat(12), NONE);
    }

    static void catRefused() {
        Check.says("Promise 9", "REFUSED for 8 or 1.");
        BalconyCensus x = new BalconyCensus();
        x.cat(0);
        Check.dueRefusal(x, "for 8", x.cat(0), 8, 0);
        for (int number = 1; number < 6; number++) {
            x.cat(number);
        }
        Check.dueRefusal(x, "for 1", x.cat(6), 1, 6);
        Check.dueRefusal(x, "for 8 ahead of 1", x.cat(5), 8, 5);
    }

    static void swap() {
        Check.says("Promise 10", "Lets two balconies swap their cats.");
        BalconyCensus x = new BalconyCensus();
        x.cat(0);
        x.cat(11);
        x.swap(11, 0);
        Check.due("cat on 0", x.balconyOf(0, 2), 1);
        Check.due("cat on 11", x.balconyOf(11, 2), 0);
        Check.due("balcony of cat 0", x.catOf(0, 0), 11);
        Check.due("balcony of cat 1", x.catOf(1, 0), 0);
    }

    static void swapReturns() {
        Check.says("Promise 10", "Returns how many cats go");
        BalconyCensus x = new BalconyCensus();
        x.cat(0);
        x.cat(1);
        Check.due("swap of two cats", x.swap(0, 1), 2);
        Check.due("swap of the one's cat", x.swap(0, 5), 1);
        Check.due("swap of the other one's cat", x.swap(0, 1), 1);
    }

    static void swapNone() {
        Check.says("Promise 10", "NONE if there is no such balcony, for either");
        BalconyCensus x = new BalconyCensus();
        x.cat(0);
        for (int balcony : NO_BALCONIES) {
            Check.due("swap(" + balcony + ", 0)", x.swap(balcony, 0), NONE);
            Check.due("swap(0, " + balcony + ")", x.swap(0, balcony), NONE);
            Check.due("swap(" + balcony + ", " + balcony + ")", x.swap(balcony, balcony), NONE);
        }
        Check.due("swaps", x.account(10), 0);
    }

    static void swapRefused() {
        Check.says("Promise 10", "REFUSED for 2, 5 or 9.");
        BalconyCensus x = new BalconyCensus();
        x.cat(3);
        Check.dueRefusal(x, "for 2", x.swap(3, 3), 2, 3);
        Check.dueRefusal(x, "for 2 ahead of 9", x.swap(4, 4), 2, 4);
        Check.dueRefusal(x, "for 9", x.swap(4, 5), 9, 1);
        x.plant(7, 4);
        Check.dueRefusal(x, "for 5", x.swap(3, 7), 5, 7);
        x.plant(8, 4);
        Check.dueRefusal(x, "for 5 ahead of 9", x.swap(4, 8), 5, 8);
        Check.due("swaps", x.account(10), 0);
    }

    static void day() {
        Check.says("Promise 11", "Lets a day end.");
        BalconyCensus x = new BalconyCensus();
        x.plant(0, 1);
        x.hang(0, 1, 2);
        x.greet(0, 1);
        x.day();
        Check.due("days", x.account(5), 1);
        Check.due("plants of 0", x.balconyOf(0, 0), 2);
        Check.due("days of the line", x.lineOf(0, 2), 1);
        Check.due("greet(0, 1)", x.greet(0, 1), 2);
        Check.due("plants grown", x.account(9), 1);
        Check.due("plants put", x.account(8), 1);
    }

    static void dayReturns() {
        Check.says("Promise 11", "Returns how many balconies get a plant more.");
        BalconyCensus x = new BalconyCensus();
        Check.due("day() without plants", x.day(), 0);
        for (int balcony = 0; balcony < 12; balcony++) {
            x.plant(balcony, 8);
        }
        Check.due("day() of all", x.day(), 12);
        Check.due("day() when all have 9", x.day(), 0);
        x.clear();
        x.plant(0, 1);
        x.plant(4, 2);
        x.plant(9, 9);
        x.plant(7, 8);
        Check.due("day() of some", x.day(), 2);
        Check.due("plants grown", x.account(9), 2);
    }
}

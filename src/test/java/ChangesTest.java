/** Promises 4 to 11: the changes, their ranges, and the order of their errors and reasons. */
public final class ChangesTest {
    private static final int NONE = Check.NONE;
    private static final int BAD = Check.BAD;

    public static void main(String[] args) {
        promise4Plant();
        promise5Bear();
        promise6Hang();
        promise6HangOrder();
        promise7Greet();
        promise7GreetOrder();
        promise8Give();
        promise8GiveOrder();
        promise9Cat();
        promise10Swap();
        promise10SwapOrder();
        promise11Grow();
        promise11LinesAndGreetings();
        errorsLeaveEverything();
        Check.end();
    }

    private static void promise4Plant() {
        BalconyCensus x = new BalconyCensus();
        Check.due("plant(0, 1)", x.plant(0, 1), 1);
        Check.due("plant(0, 8)", x.plant(0, 8), 9);
        Check.due("plant(11, 9)", x.plant(11, 9), 9);
        Check.due("plant(3, 4)", x.plant(3, 4), 4);
        Check.dueRefusal(x, "plant(3, 6)", x.plant(3, 6), 4, 4);
        Check.due("plant(3, 5)", x.plant(3, 5), 9);
        Check.dueRefusal(x, "plant(3, 1)", x.plant(3, 1), 4, 9);
        Check.due("plant(-1, 1)", x.plant(-1, 1), NONE);
        Check.due("plant(12, 1)", x.plant(12, 1), NONE);
        Check.due("plant(12, 0): NONE is named first", x.plant(12, 0), NONE);
        Check.due("plant(0, 0)", x.plant(0, 0), BAD);
        Check.due("plant(0, 10): BAD is named before REFUSED", x.plant(0, 10), BAD);
        Check.due("plant of the greatest", x.plant(Integer.MAX_VALUE, Integer.MAX_VALUE), NONE);
        Check.due("plant of the least", x.plant(1, Integer.MIN_VALUE), BAD);
        Check.due("plant more than fits an int", x.plant(0, Integer.MAX_VALUE), BAD);
        Check.due("plants put", x.account(8), 27);
    }

    private static void promise5Bear() {
        BalconyCensus x = new BalconyCensus();
        Check.due("bear(4, 0)", x.bear(4, 0), 3);
        Check.due("bear(4, 9)", x.bear(4, 9), 0);
        Check.due("bear(4, 2)", x.bear(4, 2), 9);
        Check.dueRefusal(x, "bear(4, 2)", x.bear(4, 2), 3, 2);
        Check.dueRefusal(x, "bear(11, 3)", x.bear(11, 3), 3, 3);
        Check.due("bear(-1, 2)", x.bear(-1, 2), NONE);
        Check.due("bear(12, 10)", x.bear(12, 10), NONE);
        Check.due("bear(4, -1)", x.bear(4, -1), BAD);
        Check.due("bear(4, 10)", x.bear(4, 10), BAD);
        Check.due("tolerance", x.balconyOf(4, 1), 2);
    }

    private static void promise6Hang() {
        BalconyCensus x = new BalconyCensus();
        Check.due("hang(0, 11, 9)", x.hang(0, 11, 9), 0);
        Check.due("hang(5, 1, 1)", x.hang(5, 1, 1), 1);
        Check.due("hang(0, 1, 5)", x.hang(0, 1, 5), 2);
        Check.due("hang(-1, 1, 5)", x.hang(-1, 1, 5), NONE);
        Check.due("hang(1, -1, 5)", x.hang(1, -1, 5), NONE);
        Check.due("hang(12, 1, 0)", x.hang(12, 1, 0), NONE);
        Check.due("hang(1, 12, 10)", x.hang(1, 12, 10), NONE);
        Check.due("hang(1, 2, 0)", x.hang(1, 2, 0), BAD);
        Check.due("hang(1, 2, 10)", x.hang(1, 2, 10), BAD);
        Check.due("hang(1, 1, 0): BAD is named before REFUSED", x.hang(1, 1, 0), BAD);
        Check.due("day()", x.day(), 0);
        Check.due("lines", x.account(2), 2);
        Check.due("hang(1, 5, 2)", x.hang(1, 5, 2), 2);
        Check.due("lines hung", x.account(11), 4);
    }

    private static void promise6HangOrder() {
        BalconyCensus x = new BalconyCensus();
        for (int other = 1; other <= 6; other++) {
            Check.due("hang(0, " + other + ", " + (other + 2) + ")", x.hang(0, other, other + 2), other - 1);
        }
        Check.dueRefusal(x, "hang(8, 8, 1) with 6 lines", x.hang(8, 8, 1), 2, 8);
        Check.dueRefusal(x, "hang(6, 0, 1) with 6 lines", x.hang(6, 0, 1), 3, 8);
        Check.dueRefusal(x, "hang(0, 2, 4) with 6 lines", x.hang(0, 2, 4), 3, 4);
        Check.dueRefusal(x, "hang(0, 7, 1) with 6 lines", x.hang(0, 7, 1), 1, 6);
        x.day();
        Check.dueRefusal(x, "hang(3, 0, 9) a day later", x.hang(3, 0, 9), 3, 4);
    }

    private static void promise7Greet() {
        BalconyCensus x = new BalconyCensus();
        Check.due("greet(0, 11)", x.greet(0, 11), 1);
        Check.due("greet(11, 0)", x.greet(11, 0), 1);
        Check.due("greet(0, 10)", x.greet(0, 10), 1);
        Check.dueRefusal(x, "greet(0, 11) again", x.greet(0, 11), 7, 1);
        x.day();
        Check.due("greet(0, 11) the next day", x.greet(0, 11), 2);
        Check.dueRefusal(x, "greet(0, 11) again", x.greet(0, 11), 7, 2);
        Check.due("greet(-1, 0)", x.greet(-1, 0), NONE);
        Check.due("greet(0, -1)", x.greet(0, -1), NONE);
        Check.due("greet(12, 12)", x.greet(12, 12), NONE);
        Check.due("greet(0, 12)", x.greet(0, 12), NONE);
        Check.due("greetings", x.account(6), 4);
    }

    private static void promise7GreetOrder() {
        BalconyCensus x = new BalconyCensus();
        Check.dueRefusal(x, "greet(7, 7)", x.greet(7, 7), 2, 7);
        Check.due("greet(2, 10)", x.greet(2, 10), 1);
        Check.due("greet(10, 2)", x.greet(10, 2), 1);
        x.plant(10, 4);
        Check.dueRefusal(x, "greet(2, 10) in a feud, greeted today", x.greet(2, 10), 5, 10);
        Check.dueRefusal(x, "greet(10, 2) in a feud, greeted today", x.greet(10, 2), 5, 10);
        Check.due("greet(10, 6) in a feud", x.greet(10, 6), Check.REFUSED);
        x.hang(2, 10, 1);
        Check.dueRefusal(x, "greet(2, 10) with a line", x.greet(2, 10), 7, 1);
        x.day();
        Check.dueRefusal(x, "greet(2, 10) when the line is gone", x.greet(2, 10), 5, 10);
    }

    private static void promise8Give() {
        BalconyCensus x = new BalconyCensus();
        x.plant(0, 9);
        x.plant(1, 3);
        Check.due("give(0, 1, 6)", x.give(0, 1, 6), 9);
        Check.due("plants of 0", x.balconyOf(0, 0), 3);
        Check.due("give(0, 11, 3)", x.give(0, 11, 3), 3);
        Check.dueRefusal(x, "give(0, 11, 1)", x.give(0, 11, 1), 6, 0);
        Check.due("plants given", x.account(7), 9);
        Check.due("plants", x.account(0), 12);
        Check.due("give(-1, 0, 1)", x.give(-1, 0, 1), NONE);
        Check.due("give(0, -1, 1)", x.give(0, -1, 1), NONE);
        Check.due("give(12, 0, 0)", x.give(12, 0, 0), NONE);
        Check.due("give(0, 12, 10)", x.give(0, 12, 10), NONE);
        Check.due("give(1, 1, 0)", x.give(1, 1, 0), BAD);
        Check.due("give(1, 2, 10)", x.give(1, 2, 10), BAD);
        Check.due("give(1, 2, 9)", x.give(1, 2, 9), 9);
    }

    private static void promise8GiveOrder() {
        BalconyCensus x = new BalconyCensus();
        x.plant(0, 2);
        x.plant(4, 9);
        Check.dueRefusal(x, "give(4, 4, 9)", x.give(4, 4, 9), 2, 4);
        Check.dueRefusal(x, "give(0, 4, 3): they feud, and too few, and too many", x.give(0, 4, 3), 5, 4);
        Check.dueRefusal(x, "give(4, 0, 9): they feud", x.give(4, 0, 9), 5, 4);
        x.hang(0, 4, 9);
        Check.dueRefusal(x, "give(0, 4, 3): too few, and too many", x.give(0, 4, 3), 6, 2);
        Check.dueRefusal(x, "give(0, 4, 2): too many", x.give(0, 4, 2), 4, 9);
        Check.dueRefusal(x, "give(4, 0, 8): too many", x.give(4, 0, 8), 4, 2);
        Check.due("give(4, 0, 7)", x.give(4, 0, 7), 9);
    }

    private static void promise9Cat() {
        BalconyCensus x = new BalconyCensus();
        for (int number = 0; number < 5; number++) {
            Check.due("cat(" + (11 - number) + ")", x.cat(11 - number), number);
        }
        Check.dueRefusal(x, "cat(8)", x.cat(8), 8, 3);
        Check.due("cat(0)", x.cat(0), 5);
        Check.dueRefusal(x, "cat(0) with 6 cats", x.cat(0), 8, 5);
        Check.dueRefusal(x, "cat(1) with 6 cats", x.cat(1), 1, 6);
        Check.due("cat(-1)", x.cat(-1), NONE);
        Check.due("cat(12)", x.cat(12), NONE);
        Check.due("cats", x.account(3), 6);
    }

    private static void promise10Swap() {
        BalconyCensus x = new BalconyCensus();
        x.cat(3);
        x.cat(8);
        Check.due("swap(3, 8)", x.swap(3, 8), 2);
        Check.due("cat on 3", x.balconyOf(3, 2), 1);
        Check.due("cat on 8", x.balconyOf(8, 2), 0);
        Check.due("swap(0, 3)", x.swap(0, 3), 1);
        Check.due("swap(0, 11)", x.swap(0, 11), 1);
        Check.due("balcony of cat 1", x.catOf(1, 0), 11);
        Check.due("swaps of cat 1", x.catOf(1, 2), 3);
        Check.due("swaps of cat 0", x.catOf(0, 2), 1);
        Check.due("home of cat 1", x.catOf(1, 1), 8);
        Check.due("swap(5, 8) with the first cat on the other", x.swap(5, 8), 1);
        Check.due("balcony of cat 0", x.catOf(0, 0), 5);
        Check.due("swap(-1, 0)", x.swap(-1, 0), NONE);
        Check.due("swap(0, -1)", x.swap(0, -1), NONE);
        Check.due("swap(12, 12)", x.swap(12, 12), NONE);
        Check.due("swap(0, 12)", x.swap(0, 12), NONE);
    }

    private static void promise10SwapOrder() {
        BalconyCensus x = new BalconyCensus();
        x.cat(5);
        x.cat(0);
        x.plant(10, 9);
        Check.dueRefusal(x, "swap(2, 2) without cats", x.swap(2, 2), 2, 2);
        Check.dueRefusal(x, "swap(2, 10) without cats", x.swap(2, 10), 5, 10);
        Check.dueRefusal(x, "swap(10, 6) without cats", x.swap(10, 6), 5, 10);
        Check.dueRefusal(x, "swap(9, 10) without cats", x.swap(9, 10), 9, 2);
        Check.dueRefusal(x, "swap(5, 5) with a cat", x.swap(5, 5), 2, 5);
        x.plant(9, 4);
        Check.dueRefusal(x, "swap(5, 9) with a cat", x.swap(5, 9), 5, 9);
        Check.due("swaps", x.account(10), 0);
    }

    private static void promise11Grow() {
        BalconyCensus x = new BalconyCensus();
        x.plant(0, 8);
        x.plant(4, 8);
        x.plant(8, 9);
        x.plant(1, 5);
        x.plant(5, 5);
        x.plant(2, 4);
        x.plant(10, 5);
        x.hang(2, 10, 1);
        x.plant(7, 1);
        Check.due("day()", x.day(), 4);
        int[] after = {8, 6, 4, 0, 8, 6, 0, 2, 9, 0, 6, 0};
        for (int balcony = 0; balcony < 12; balcony++) {
            Check.due("plants of " + balcony, x.balconyOf(balcony, 0), after[balcony]);
        }
        Check.due("plants grown", x.account(9), 4);
        Check.due("days", x.account(5), 1);
        x.clear();
        x.plant(3, 8);
        x.plant(7, 7);
        Check.due("day() up to 9", x.day(), 2);
        Check.due("day() when one has 9", x.day(), 1);
        Check.due("day() when both have 9", x.day(), 0);
        Check.due("plants of 7", x.balconyOf(7, 0), 9);
        x.clear();
        x.plant(0, 6);
        x.plant(4, 7);
        x.plant(8, 8);
        Check.due("day(): all as it is ahead of that", x.day(), 1);
    }

    private static void promise11LinesAndGreetings() {
        BalconyCensus x = new BalconyCensus();
        x.hang(0, 1, 2);
        x.hang(0, 2, 1);
        x.hang(3, 2, 3);
        x.hang(0, 4, 1);
        x.greet(0, 1);
        Check.due("lines at 0", x.balconyOf(0, 6), 3);
        Check.due("lines at 2", x.balconyOf(2, 6), 2);
        Check.due("lines at 4", x.balconyOf(4, 6), 1);
        Check.due("lines at 5", x.balconyOf(5, 6), 0);
        x.day();
        Check.due("lines", x.account(2), 2);
        Check.due("lower one of line 1", x.lineOf(1, 0), 2);
        Check.due("higher one of line 1", x.lineOf(1, 1), 3);
        Check.due("days of line 1", x.lineOf(1, 2), 2);
        Check.due("days of line 0", x.lineOf(0, 2), 1);
        Check.due("no line 2", x.lineOf(2, 2), NONE);
        Check.due("greet(0, 1)", x.greet(0, 1), 2);
        x.day();
        Check.due("lines", x.account(2), 1);
        Check.due("higher one of line 0", x.lineOf(0, 1), 3);
        x.day();
        Check.due("lines", x.account(2), 0);
    }

    private static void errorsLeaveEverything() {
        BalconyCensus x = new BalconyCensus();
        x.plant(4, 9);
        x.plant(1, 2);
        x.cat(1);
        x.hang(2, 3, 4);
        x.greet(1, 2);
        String before = Check.sightOf(x);
        x.plant(4, 1);
        x.plant(4, 10);
        x.bear(0, 3);
        x.hang(2, 3, 5);
        x.greet(1, 2);
        x.greet(0, 4);
        x.give(1, 2, 3);
        x.give(4, 0, 3);
        x.cat(1);
        x.swap(0, 4);
        x.swap(2, 3);
        Check.dueText("all behind errors", Check.sightOf(x), before);
        Check.due("changes behind errors", x.account(13), 5);
    }
}

/** Promises 20 to 36, counts, ways, orders and written lines, sentence by sentence. */
final class SentencesOfCounts {
    private static final int NONE = Check.NONE;
    private static final int BAD = Check.BAD;
    private static final int REFUSED = Check.REFUSED;
    private static final int NOTHING = Check.NOTHING;

    private static final int[] NO_BALCONIES = {-1, 12, 13, -12, 99, Integer.MIN_VALUE, Integer.MAX_VALUE, 1 << 16, -1 << 30};

    /** Each column is full of feuds: 12 of them. */
    private static BalconyCensus quarrelling() {
        BalconyCensus x = new BalconyCensus();
        for (int balcony = 0; balcony < 12; balcony++) {
            x.plant(balcony, 9);
        }
        return x;
    }

    static void feuds() {
        Check.says("Promise 20", "Returns how many pairs of balconies feud: pair by pair.");
        BalconyCensus x = quarrelling();
        Check.due("feuds() of all", x.feuds(), 12);
        x.bear(0, 9);
        Check.due("feuds() with tolerance below", x.feuds(), 10);
        x.bear(4, 9);
        Check.due("feuds() with tolerance between", x.feuds(), 9);
        x.bear(8, 9);
        Check.due("feuds() with tolerance on top", x.feuds(), 9);
        x.hang(1, 9, 1);
        x.hang(1, 0, 1);
        Check.due("feuds() with lines", x.feuds(), 8);
    }

    static void feudsReturns() {
        Check.says("Promise 20", "Returns how many.");
        BalconyCensus x = new BalconyCensus();
        Check.due("feuds() at first", x.feuds(), 0);
        x.plant(0, 9);
        Check.due("feuds() with plants on floor 0 alone", x.feuds(), 0);
        x.plant(4, 3);
        Check.due("feuds() at the tolerance", x.feuds(), 0);
        x.plant(4, 1);
        Check.due("feuds() beyond it", x.feuds(), 1);
    }

    static void feudsAgain() {
        Check.says("Promise 21", "Returns the same by a second way: column by column, by all those above a balcony, "
                + "less those with lines.");
        BalconyCensus x = quarrelling();
        Check.due("feudsAgain() of all", x.feudsAgain(), 12);
        x.hang(0, 4, 2);
        x.hang(8, 0, 2);
        x.hang(5, 9, 1);
        Check.due("feudsAgain() with lines where they feud", x.feudsAgain(), 9);
        x.hang(0, 1, 2);
        x.hang(4, 9, 2);
        Check.due("feudsAgain() with lines across", x.feudsAgain(), 9);
        x.bear(2, 9);
        x.hang(2, 6, 2);
        Check.due("feudsAgain() with a line where they would not", x.feudsAgain(), 7);
        x.day();
        Check.due("feudsAgain() when a line is gone", x.feudsAgain(), 8);
        Check.due("feuds()", x.feuds(), 8);
    }

    static void feudsAgainReturns() {
        Check.says("Promise 21", "Returns how many.");
        BalconyCensus x = new BalconyCensus();
        Check.due("feudsAgain() at first", x.feudsAgain(), 0);
        x.plant(7, 4);
        Check.due("feudsAgain()", x.feudsAgain(), 1);
        x.hang(3, 7, 1);
        Check.due("feudsAgain() with a line", x.feudsAgain(), 0);
        x.plant(11, 4);
        Check.due("feudsAgain() with another one", x.feudsAgain(), 2);
    }

    private static void dueExcess(BalconyCensus x, boolean isAgain, String when, int want) {
        Check.due((isAgain ? "excessAgain() " : "excess() ") + when, isAgain ? x.excessAgain() : x.excess(), want);
    }

    private static void lookAtExcess(boolean isAgain) {
        BalconyCensus x = new BalconyCensus();
        x.plant(8, 9);
        dueExcess(x, isAgain, "of one on top", 6);
        x.bear(0, 1);
        dueExcess(x, isAgain, "by the least tolerance of two", 8);
        x.hang(0, 8, 2);
        dueExcess(x, isAgain, "by the tolerance that counts", 6);
        x.hang(4, 8, 1);
        dueExcess(x, isAgain, "when none counts", 0);
        x.plant(4, 2);
        dueExcess(x, isAgain, "of the one between", 1);
        x.day();
        dueExcess(x, isAgain, "a day later", 6 + 1);
        x.plant(5, 9);
        x.plant(9, 5);
        dueExcess(x, isAgain, "of another column", 7 + 6 + 2);
        x.bear(1, 9);
        x.bear(5, 0);
        dueExcess(x, isAgain, "without tolerance between", 7 + 5);
    }

    static void excess() {
        Check.says("Promise 22", "Returns how many plants are too many: balcony by balcony, by the least tolerance below it that counts.");
        lookAtExcess(false);
    }

    static void excessReturns() {
        Check.says("Promise 22", "Returns how many.");
        BalconyCensus x = new BalconyCensus();
        dueExcess(x, false, "at first", 0);
        for (int balcony = 0; balcony < 12; balcony++) {
            x.bear(balcony, 0);
            x.plant(balcony, 9);
        }
        dueExcess(x, false, "at the most", 72);
    }

    static void excessAgain() {
        Check.says("Promise 23", "Returns the same by a second way: by taking plants of those that feud, one after the other,");
        lookAtExcess(true);
    }

    static void excessAgainOnACopy() {
        Check.says("Promise 23", "on a copy.");
        BalconyCensus x = quarrelling();
        String before = Check.shortSightOf(x);
        dueExcess(x, true, "of all", 48);
        Check.dueText("all behind it", Check.shortSightOf(x), before);
        dueExcess(x, true, "once more", 48);
        Check.due("changes", x.account(13), 8);
    }

    static void excessAgainReturns() {
        Check.says("Promise 23", "Returns how many.");
        BalconyCensus x = new BalconyCensus();
        dueExcess(x, true, "at first", 0);
        for (int balcony = 0; balcony < 12; balcony++) {
            x.bear(balcony, 0);
            x.plant(balcony, 9);
        }
        dueExcess(x, true, "at the most", 72);
    }

    static void census() {
        Check.says("Promise 24", "Returns how many greetings there were so far: by those who gave them.");
        BalconyCensus x = new BalconyCensus();
        x.greet(0, 11);
        x.greet(11, 0);
        x.greet(11, 1);
        x.day();
        x.greet(11, 0);
        Check.due("census()", x.census(), 4);
        x.undo();
        Check.due("census() behind undo", x.census(), 3);
    }

    static void censusReturns() {
        Check.says("Promise 24", "Returns how many.");
        BalconyCensus x = new BalconyCensus();
        Check.due("census() at first", x.census(), 0);
        for (int balcony = 0; balcony < 11; balcony++) {
            x.greet(balcony, 11);
            Check.due("census()", x.census(), balcony + 1);
        }
    }

    static void censusAgain() {
        Check.says("Promise 25", "Returns the same by a second way: by those who got them.");
        BalconyCensus x = new BalconyCensus();
        x.greet(0, 11);
        x.greet(1, 11);
        x.greet(11, 0);
        x.day();
        x.greet(1, 11);
        Check.due("censusAgain()", x.censusAgain(), 4);
        x.undo();
        Check.due("censusAgain() behind undo", x.censusAgain(), 3);
    }

    static void censusAgainReturns() {
        Check.says("Promise 25", "Returns how many.");
        BalconyCensus x = new BalconyCensus();
        Check.due("censusAgain() at first", x.censusAgain(), 0);
        for (int balcony = 1; balcony < 12; balcony++) {
            x.greet(0, balcony);
            Check.due("censusAgain()", x.censusAgain(), balcony);
        }
    }

    private static int stepsBy(BalconyCensus x, boolean isAgain, int one, int other) {
        return isAgain ? x.stepsAgain(one, other) : x.steps(one, other);
    }

    private static void dueSteps(BalconyCensus x, boolean isAgain, int one, int other, int want) {
        String name = isAgain ? "stepsAgain(" : "steps(";
        Check.due(name + one + ", " + other + ")", stepsBy(x, isAgain, one, other), want);
        Check.due(name + other + ", " + one + ")", stepsBy(x, isAgain, other, one), want);
    }

    /** The way from one corner gets longer and longer, and ends in none. */
    private static void lookAtSteps(boolean isAgain) {
        BalconyCensus x = new BalconyCensus();
        dueSteps(x, isAgain, 0, 11, 5);
        dueSteps(x, isAgain, 3, 8, 5);
        dueSteps(x, isAgain, 0, 4, 1);
        x.plant(4, 4);
        dueSteps(x, isAgain, 0, 4, 3);
        x.plant(5, 4);
        dueSteps(x, isAgain, 0, 4, 5);
        x.plant(6, 4);
        dueSteps(x, isAgain, 0, 4, 7);
        x.plant(9, 4);
        x.plant(10, 4);
        x.plant(11, 4);
        dueSteps(x, isAgain, 3, 11, 8);
        x.bear(4, 0);
        x.plant(8, 4);
        dueSteps(x, isAgain, 3, 11, NOTHING);
        dueSteps(x, isAgain, 0, 4, 7);
        dueSteps(x, isAgain, 8, 11, 3);
        x.plant(7, 4);
        dueSteps(x, isAgain, 0, 4, NOTHING);
        dueSteps(x, isAgain, 0, 3, 3);
        x.hang(0, 4, 1);
        dueSteps(x, isAgain, 3, 7, 7);
    }

    private static void lookAtStepsNone(boolean isAgain) {
        BalconyCensus x = new BalconyCensus();
        for (int balcony : NO_BALCONIES) {
            dueSteps(x, isAgain, balcony, 0, NONE);
            dueSteps(x, isAgain, 11, balcony, NONE);
            dueSteps(x, isAgain, balcony, balcony, NONE);
        }
    }

    private static void lookAtStepsNothing(boolean isAgain) {
        BalconyCensus x = quarrelling();
        for (int one = 0; one < 12; one++) {
            for (int other = 0; other < 12; other++) {
                int want = one / 4 == other / 4 ? Math.abs(one - other) : NOTHING;
                Check.due("steps of " + one + " and " + other, stepsBy(x, isAgain, one, other), want);
            }
        }
    }

    static void steps() {
        Check.says("Promise 26", "Returns the fewest steps of a cat between two balconies: step by step.");
        lookAtSteps(false);
    }

    static void stepsToTheSame() {
        Check.says("Promise 26", "`other`: the other balcony, possibly the same");
        BalconyCensus x = quarrelling();
        for (int balcony = 0; balcony < 12; balcony++) {
            Check.due("steps(" + balcony + ", " + balcony + ")", x.steps(balcony, balcony), 0);
            Check.due("stepsAgain(" + balcony + ", " + balcony + ")", x.stepsAgain(balcony, balcony), 0);
            Check.due("way(" + balcony + ", " + balcony + ", 0)", x.way(balcony, balcony, 0), balcony);
            Check.due("way(" + balcony + ", " + balcony + ", 1)", x.way(balcony, balcony, 1), NOTHING);
        }
    }

    static void stepsReturns() {
        Check.says("Promise 26", "Returns the steps");
        BalconyCensus x = new BalconyCensus();
        for (int one = 0; one < 12; one++) {
            for (int other = 0; other < 12; other++) {
                int want = Math.abs(one / 4 - other / 4) + Math.abs(one % 4 - other % 4);
                Check.due("steps(" + one + ", " + other + ")", x.steps(one, other), want);
            }
        }
    }

    static void stepsNone() {
        Check.says("Promise 26", "NONE if there is no such balcony, for either");
        lookAtStepsNone(false);
    }

    static void stepsNothing() {
        Check.says("Promise 26", "NOTHING if there is no way.");
        lookAtStepsNothing(false);
    }

    static void stepsAgain() {
        Check.says("Promise 27", "Returns the same by a second way: by taking less for each two balconies beside each other, "
                + "again and again.");
        lookAtSteps(true);
    }

    static void stepsAgainReturns() {
        Check.says("Promise 27", "Returns the steps");
        BalconyCensus x = new BalconyCensus();
        for (int one = 0; one < 12; one++) {
            for (int other = 0; other < 12; other++) {
                int want = Math.abs(one / 4 - other / 4) + Math.abs(one % 4 - other % 4);
                Check.due("stepsAgain(" + one + ", " + other + ")", x.stepsAgain(one, other), want);
            }
        }
    }

    static void stepsAgainNone() {
        Check.says("Promise 27", "NONE if there is no such balcony, for either");
        lookAtStepsNone(true);
    }

    static void stepsAgainNothing() {
        Check.says("Promise 27", "NOTHING if there is no way.");
        lookAtStepsNothing(true);
    }

    static void way() {
        Check.says("Promise 28", "Returns a balcony of the way told.");
        BalconyCensus x = new BalconyCensus();
        int[] told = {8, 4, 0, 1, 2, 3};
        for (int place = 0; place < 6; place++) {
            Check.due("way(8, 3, " + place + ")", x.way(8, 3, place), told[place]);
        }
        x.plant(4, 4);
        int[] around = {0, 1, 5, 4};
        for (int place = 0; place < 4; place++) {
            Check.due("way(0, 4, " + place + ")", x.way(0, 4, place), around[place]);
        }
    }

    static void wayFrom0() {
        Check.says("Promise 28", "`place`: the place, from 0 for the one balcony");
        BalconyCensus x = new BalconyCensus();
        for (int one = 0; one < 12; one++) {
            for (int other = 0; other < 12; other++) {
                Check.due("way(" + one + ", " + other + ", 0)", x.way(one, other, 0), one);
                Check.due("way to " + other + ", its last", x.way(one, other, x.steps(one, other)), other);
            }
            x = new BalconyCensus();
        }
    }

    static void wayReturns() {
        Check.says("Promise 28", "Returns the balcony");
        BalconyCensus x = new BalconyCensus();
        Check.due("way(6, 7, 1)", x.way(6, 7, 1), 7);
        Check.due("way(10, 1, 1)", x.way(10, 1, 1), 6);
        Check.due("way(10, 1, 2)", x.way(10, 1, 2), 2);
    }

    static void wayNone() {
        Check.says("Promise 28", "NONE if there is no such balcony, for either");
        BalconyCensus x = new BalconyCensus();
        for (int balcony : NO_BALCONIES) {
            Check.due("way(" + balcony + ", 0, 0)", x.way(balcony, 0, 0), NONE);
            Check.due("way(0, " + balcony + ", 0)", x.way(0, balcony, 0), NONE);
            Check.due("way(" + balcony + ", " + balcony + ", -1)", x.way(balcony, balcony, -1), NONE);
        }
    }

    static void wayNothing() {
        Check.says("Promise 28", "NOTHING if there is no way,");
        BalconyCensus x = quarrelling();
        for (int place = -1; place <= 12; place++) {
            Check.due("way(0, 4, " + place + ")", x.way(0, 4, place), NOTHING);
            Check.due("way(11, 3, " + place + ")", x.way(11, 3, place), NOTHING);
        }
        Check.due("way(0, 4, -4)", x.way(0, 4, -4), NOTHING);
        Check.due("way(0, 4, -5)", x.way(0, 4, -5), NOTHING);
    }

    static void wayNoSuchPlace() {
        Check.says("Promise 28", "or no such place on it.");
        BalconyCensus x = new BalconyCensus();
        int[] places = {6, 7, -1, -2, Integer.MAX_VALUE, Integer.MIN_VALUE};
        for (int place : places) {
            Check.due("way(0, 11, " + place + ")", x.way(0, 11, place), NOTHING);
        }
        Check.due("way(0, 11, 5)", x.way(0, 11, 5), 11);
        Check.due("way(0, 1, 2)", x.way(0, 1, 2), NOTHING);
    }

    static void circles() {
        Check.says("Promise 29", "Returns how many circles there are.");
        BalconyCensus x = new BalconyCensus();
        Check.due("circles() at first", x.circles(), 12);
        x.greet(0, 6);
        Check.due("circles() from one side", x.circles(), 12);
        x.greet(6, 0);
        Check.due("circles() of two friends", x.circles(), 11);
        x.undo();
        Check.due("circles() behind undo", x.circles(), 12);
    }

    static void circlesReturns() {
        Check.says("Promise 29", "Returns how many.");
        BalconyCensus x = new BalconyCensus();
        for (int balcony = 11; balcony > 0; balcony--) {
            x.greet(balcony, balcony - 1);
            x.greet(balcony - 1, balcony);
            Check.due("circles()", x.circles(), balcony);
        }
    }

    static void wouldGrow() {
        Check.says("Promise 30", "Returns how many plants there would be behind some days, if nothing else was done.");
        BalconyCensus x = new BalconyCensus();
        x.plant(0, 1);
        x.plant(4, 1);
        x.plant(9, 8);
        x.plant(1, 7);
        x.hang(0, 1, 1);
        x.greet(0, 1);
        String before = Check.shortSightOf(x);
        int[] want = {17, 20, 22, 24, 26, 28, 30, 32, 34, 34, 34};
        for (int days = 0; days <= 10; days++) {
            Check.due("wouldGrow(" + days + ")", x.wouldGrow(days), want[days]);
        }
        Check.dueText("all behind it", Check.shortSightOf(x), before);
        Check.due("changes", x.account(13), 6);
        Check.due("greet(0, 1) still today", x.greet(0, 1), REFUSED);
    }

    static void wouldGrowFrom0To20() {
        Check.says("Promise 30", "`days`: how many, from 0 to 20");
        BalconyCensus x = new BalconyCensus();
        x.plant(5, 1);
        for (int days = 0; days <= 20; days++) {
            Check.due("wouldGrow(" + days + ")", x.wouldGrow(days), days < 8 ? days + 1 : 9);
        }
        Check.due("wouldGrow(-1)", x.wouldGrow(-1), BAD);
        Check.due("wouldGrow(21)", x.wouldGrow(21), BAD);
    }

    static void wouldGrowReturns() {
        Check.says("Promise 30", "Returns how many;");
        BalconyCensus x = new BalconyCensus();
        Check.due("wouldGrow(0) of nothing", x.wouldGrow(0), 0);
        Check.due("wouldGrow(20) of nothing", x.wouldGrow(20), 0);
        for (int balcony = 0; balcony < 12; balcony++) {
            x.plant(balcony, 2);
        }
        Check.due("wouldGrow(6)", x.wouldGrow(6), 96);
        Check.due("wouldGrow(20)", x.wouldGrow(20), 108);
    }

    static void wouldGrowBad() {
        Check.says("Promise 30", "BAD if the number is out of range.");
        BalconyCensus x = new BalconyCensus();
        int[] days = {-1, 21, -20, 22, Integer.MIN_VALUE, Integer.MAX_VALUE};
        for (int number : days) {
            Check.due("wouldGrow(" + number + ")", x.wouldGrow(number), BAD);
        }
    }

    private static void dueOrder(BalconyCensus x, boolean isKindest, int... order) {
        for (int place = 0; place < order.length; place++) {
            int got = isKindest ? x.kindest(place) : x.worst(place);
            Check.due((isKindest ? "kindest(" : "worst(") + place + ")", got, order[place]);
        }
    }

    static void kindestByGiven() {
        Check.says("Promise 31", "Returns a balcony by the greetings that it gave, the most first,");
        BalconyCensus x = new BalconyCensus();
        x.greet(11, 0);
        x.greet(11, 1);
        x.greet(11, 2);
        x.greet(5, 0);
        x.greet(5, 1);
        x.greet(8, 0);
        dueOrder(x, true, 11, 5, 8, 0, 1, 2, 3, 4, 6, 7, 9, 10);
    }

    static void kindestByGot() {
        Check.says("Promise 31", "of several the one that got more,");
        BalconyCensus x = new BalconyCensus();
        x.greet(2, 9);
        x.greet(7, 9);
        x.greet(3, 7);
        dueOrder(x, true, 7, 2, 3, 9, 0, 1, 4, 5, 6, 8, 10, 11);
        x.greet(9, 3);
        dueOrder(x, true, 9, 3, 7, 2, 0, 1, 4, 5, 6, 8, 10, 11);
    }

    static void kindestByNumber() {
        Check.says("Promise 31", "then the lowest one.");
        BalconyCensus x = new BalconyCensus();
        dueOrder(x, true, 0, 1, 2, 3, 4, 5, 6, 7, 8, 9, 10, 11);
        x.greet(11, 10);
        x.greet(10, 11);
        dueOrder(x, true, 10, 11, 0, 1, 2, 3, 4, 5, 6, 7, 8, 9);
    }

    static void kindestFrom0() {
        Check.says("Promise 31", "`place`: the place, from 0");
        BalconyCensus x = new BalconyCensus();
        Check.due("kindest(0)", x.kindest(0), 0);
        Check.due("kindest(-1)", x.kindest(-1), NONE);
    }

    static void kindestReturns() {
        Check.says("Promise 31", "Returns the balcony");
        BalconyCensus x = new BalconyCensus();
        x.greet(6, 5);
        Check.due("kindest(0)", x.kindest(0), 6);
        Check.due("kindest(1)", x.kindest(1), 5);
        Check.due("kindest(11)", x.kindest(11), 11);
    }

    static void kindestNone() {
        Check.says("Promise 31", "NONE if there is no such place.");
        BalconyCensus x = new BalconyCensus();
        for (int place : NO_BALCONIES) {
            Check.due("kindest(" + place + ")", x.kindest(place), NONE);
        }
    }

    static void worstByFeuds() {
        Check.says("Promise 32", "Returns a balcony by the feuds in which it is, the most first,");
        BalconyCensus x = new BalconyCensus();
        x.bear(3, 2);
        x.plant(11, 4);
        x.plant(7, 3);
        x.plant(0, 9);
        dueOrder(x, false, 11, 7, 3, 0, 1, 2, 4, 5, 6, 8, 9, 10);
        x.hang(11, 7, 1);
        dueOrder(x, false, 3, 11, 7, 0, 1, 2, 4, 5, 6, 8, 9, 10);
    }

    static void worstByPlants() {
        Check.says("Promise 32", "of several the one with more plants,");
        BalconyCensus x = new BalconyCensus();
        x.plant(0, 2);
        x.plant(3, 3);
        x.plant(2, 1);
        x.plant(11, 2);
        x.plant(5, 4);
        dueOrder(x, false, 5, 1, 3, 0, 11, 2, 4, 6, 7, 8, 9, 10);
    }

    static void worstByNumber() {
        Check.says("Promise 32", "then the lowest one.");
        BalconyCensus x = new BalconyCensus();
        dueOrder(x, false, 0, 1, 2, 3, 4, 5, 6, 7, 8, 9, 10, 11);
        x.plant(10, 4);
        x.plant(9, 4);
        dueOrder(x, false, 9, 10, 1, 2, 5, 6, 0, 3, 4, 7, 8, 11);
    }

    static void worstFrom0() {
        Check.says("Promise 32", "`place`: the place, from 0");
        BalconyCensus x = new BalconyCensus();
        Check.due("worst(0)", x.worst(0), 0);
        Check.due("worst(-1)", x.worst(-1), NONE);
    }

    static void worstReturns() {
        Check.says("Promise 32", "Returns the balcony");
        BalconyCensus x = new BalconyCensus();
        x.plant(6, 9);
        Check.due("worst(0)", x.worst(0), 6);
        Check.due("worst(1)", x.worst(1), 2);
        Check.due("worst(11)", x.worst(11), 11);
    }

    static void worstNone() {
        Check.says("Promise 32", "NONE if there is no such place.");
        BalconyCensus x = new BalconyCensus();
        for (int place : NO_BALCONIES) {
            Check.due("worst(" + place + ")", x.worst(place), NONE);
        }
    }

    private static void dueLine(BalconyCensus x, String call, int length, String want) {
        Check.due("length of " + call, length, want.length());
        Check.dueText(call, Check.lineOf(x, length), want);
    }

    static void writeInPlace() {
        Check.says("Promise 33", "Writes a floor as a line, in place of the one before:");
        BalconyCensus x = new BalconyCensus();
        x.plant(4, 3);
        x.plant(11, 1);
        for (int cat = 0; cat < 4; cat++) {
            x.cat(cat + 4);
        }
        dueLine(x, "write(1)", x.write(1), "3a 0b 0c 0d");
        dueLine(x, "write(2)", x.write(2), "0 0 0 1");
        dueLine(x, "write(0)", x.write(0), "0 0 0 0");
        dueLine(x, "write(0) once more", x.write(0), "0 0 0 0");
    }

    static void writeEachBalcony() {
        Check.says("Promise 33", "for each of its balconies, by columns, its plants, the number of its cat as a letter from a to f, "
                + "if it has one, and \"!\" if it feuds, with a blank between two; as in \"3a 0 5! 0\".");
        BalconyCensus x = new BalconyCensus();
        x.cat(4);
        x.plant(4, 3);
        x.plant(6, 5);
        dueLine(x, "write(1)", x.write(1), "3a 0 5! 0");
        dueLine(x, "write(0)", x.write(0), "0 0 0! 0");
        for (int cat = 1; cat < 6; cat++) {
            x.cat(cat + 5);
        }
        x.plant(9, 9);
        dueLine(x, "write(1) with cats", x.write(1), "3a 0! 5b! 0c");
        dueLine(x, "write(2) with cats", x.write(2), "0d 9e! 0f 0");
        x.hang(1, 9, 1);
        x.hang(5, 9, 1);
        dueLine(x, "write(2) without feuds", x.write(2), "0d 9e 0f 0");
    }

    static void writeFrom0To2() {
        Check.says("Promise 33", "`floor`: the floor, from 0 to 2");
        BalconyCensus x = new BalconyCensus();
        for (int floor = 0; floor <= 2; floor++) {
            Check.due("write(" + floor + ")", x.write(floor), 7);
        }
        Check.due("write(-1)", x.write(-1), NONE);
        Check.due("write(3)", x.write(3), NONE);
    }

    static void writeReturns() {
        Check.says("Promise 33", "Returns the length of the line");
        BalconyCensus x = new BalconyCensus();
        Check.due("write(2) at the least", x.write(2), 7);
        for (int column = 0; column < 4; column++) {
            x.cat(8 + column);
            x.plant(8 + column, 9);
        }
        Check.due("write(2) at the most", x.write(2), 15);
    }

    static void writeNone() {
        Check.says("Promise 33", "NONE if there is no such floor.");
        BalconyCensus x = new BalconyCensus();
        x.plant(0, 1);
        x.write(0);
        int[] floors = {-1, 3, 4, Integer.MIN_VALUE, Integer.MAX_VALUE, 1 << 30};
        for (int floor : floors) {
            Check.due("write(" + floor + ")", x.write(floor), NONE);
        }
        Check.dueText("the line stays", Check.lineOf(x, 7), "1 0 0 0");
    }

    static void writeLinesInPlace() {
        Check.says("Promise 34", "Writes the laundry lines as a line, in place of the one before:");
        BalconyCensus x = new BalconyCensus();
        x.write(0);
        dueLine(x, "writeLines() without lines", x.writeLines(), "");
        x.hang(2, 3, 2);
        x.write(0);
        dueLine(x, "writeLines()", x.writeLines(), "2-3:2");
        dueLine(x, "writeLines() once more", x.writeLines(), "2-3:2");
    }

    static void writeEachLine() {
        Check.says("Promise 34", "for each its lower balcony, \"-\", the higher one, \":\" and the days, with a blank between two; "
                + "as in \"1-5:3 0-11:9\".");
        BalconyCensus x = new BalconyCensus();
        x.hang(5, 1, 3);
        x.hang(0, 11, 9);
        dueLine(x, "writeLines()", x.writeLines(), "1-5:3 0-11:9");
        x.hang(10, 9, 1);
        dueLine(x, "writeLines()", x.writeLines(), "1-5:3 0-11:9 9-10:1");
        x.day();
        dueLine(x, "writeLines() a day later", x.writeLines(), "1-5:2 0-11:8");
    }

    static void writeLinesReturns() {
        Check.says("Promise 34", "Returns the length of the line.");
        BalconyCensus x = new BalconyCensus();
        Check.due("writeLines() without lines", x.writeLines(), 0);
        x.hang(10, 11, 9);
        Check.due("writeLines() of one", x.writeLines(), 7);
        x.hang(0, 1, 9);
        Check.due("writeLines() of two", x.writeLines(), 13);
        for (int number = 2; number < 6; number++) {
            x.hang(number, 11, 9);
        }
        Check.due("writeLines() of six", x.writeLines(), 13 + 4 * 7);
    }

    static void written() {
        Check.says("Promise 35", "Returns the code of a character of the written line,");
        BalconyCensus x = new BalconyCensus();
        x.plant(4, 4);
        x.cat(4);
        x.write(1);
        String line = "4a! 0 0 0";
        for (int index = 0; index < line.length(); index++) {
            Check.due("written(" + index + ")", x.written(index), line.charAt(index));
        }
    }

    static void writtenEmptyAtFirst() {
        Check.says("Promise 35", "which is empty at first.");
        BalconyCensus x = new BalconyCensus();
        Check.due("written(0)", x.written(0), NONE);
        x.write(3);
        Check.due("written(0) behind an error", x.written(0), NONE);
    }

    static void writtenFrom0() {
        Check.says("Promise 35", "`index`: its index, from 0");
        BalconyCensus x = new BalconyCensus();
        x.plant(0, 7);
        x.write(0);
        Check.due("written(0)", x.written(0), '7');
        Check.due("written(-1)", x.written(-1), NONE);
    }

    static void writtenReturns() {
        Check.says("Promise 35", "Returns the code");
        BalconyCensus x = new BalconyCensus();
        x.hang(0, 11, 9);
        x.writeLines();
        Check.due("written(1)", x.written(1), 45);
        Check.due("written(4)", x.written(4), 58);
        Check.due("written(5)", x.written(5), 57);
    }

    static void writtenNone() {
        Check.says("Promise 35", "NONE if there is none.");
        BalconyCensus x = new BalconyCensus();
        x.write(0);
        int[] indices = {-1, 7, 8, Integer.MIN_VALUE, Integer.MAX_VALUE};
        for (int index : indices) {
            Check.due("written(" + index + ")", x.written(index), NONE);
        }
        Check.due("written(6)", x.written(6), '0');
        x.writeLines();
        Check.due("written(0) of an empty line", x.written(0), NONE);
    }

    static void isWell() {
        Check.says("Promise 36", "Returns whether feuds, plants too many, greetings, and the fewest steps between all balconies "
                + "are alike by both ways, and no two cats are on one balcony.");
        BalconyCensus x = quarrelling();
        for (int number = 0; number < 6; number++) {
            x.cat(number * 2);
            x.greet(number, number + 1);
            x.hang(number, number + 4, 2);
            Check.due("isWell()", x.isWell(), 1);
        }
        x.swap(0, 2);
        Check.due("isWell() behind swap", x.isWell(), 1);
        x.day();
        x.day();
        Check.due("isWell() when all lines are gone", x.isWell(), 1);
    }

    static void isWellReturns() {
        Check.says("Promise 36", "Returns 1 if it is so, 0 otherwise.");
        BalconyCensus x = new BalconyCensus();
        Check.due("isWell() at first", x.isWell(), 1);
        x.plant(9, 9);
        x.write(2);
        String before = Check.shortSightOf(x);
        Check.due("isWell() with feuds", x.isWell(), 1);
        Check.dueText("all behind it", Check.shortSightOf(x), before);
        Check.dueText("line behind it", Check.lineOf(x, 8), "0 9! 0 0");
    }

    /** No calls lead to what is not well, so that the house is damaged from outside. */
    static void isWellOfADamagedHouse() throws Exception {
        Check.says("Promise 36", "0 otherwise.");
        int[][] pairs = {{0, 1}, {0, 5}, {2, 4}, {4, 5}};
        for (int[] pair : pairs) {
            BalconyCensus x = new BalconyCensus();
            for (int number = 0; number < 6; number++) {
                x.cat(number);
            }
            rowOf(x, "cats", "balconies")[pair[1]] = pair[0];
            Check.due("isWell() with cats " + pair[0] + " and " + pair[1] + " on one balcony", x.isWell(), 0);
        }
        BalconyCensus y = new BalconyCensus();
        y.plant(4, 9);
        y.hang(0, 4, 9);
        y.hang(0, 5, 9);
        rowOf(y, "lines", "higher")[1] = 4;
        Check.due("isWell() with two lines between two balconies", y.isWell(), 0);
    }

    private static int[] rowOf(BalconyCensus x, String part, String row) throws Exception {
        return (int[]) partOf(partOf(partOf(x, "house"), part), row);
    }

    private static Object partOf(Object whole, String name) throws Exception {
        java.lang.reflect.Field field = whole.getClass().getDeclaredField(name);
        field.setAccessible(true);
        return field.get(whole);
    }
}

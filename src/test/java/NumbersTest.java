/** Promises 15 to 19, 37, 38 and 39: numbers of balconies, pairs, cats and lines, means, shares, accounts. */
public final class NumbersTest {
    private static final int NONE = Check.NONE;
    private static final int BAD = Check.BAD;
    private static final int NOTHING = Check.NOTHING;

    public static void main(String[] args) {
        promise15BalconyOf();
        promise15Friends();
        promise16Feud();
        promise17Greeted();
        promise18CatOf();
        promise19LineOf();
        promise37MeanPlants();
        promise38HomeShare();
        promise39Account();
        Check.end();
    }

    private static void promise15BalconyOf() {
        BalconyCensus x = new BalconyCensus();
        int[] first = {0, 3, NOTHING, 0, 0, 0, 0, 0};
        for (int what = 0; what < 8; what++) {
            Check.due("balconyOf(11, " + what + ")", x.balconyOf(11, what), first[what]);
        }
        x.cat(0);
        x.cat(5);
        x.greet(5, 0);
        x.greet(5, 2);
        x.greet(0, 5);
        x.day();
        x.greet(5, 2);
        x.plant(5, 7);
        x.plant(9, 8);
        x.bear(5, 1);
        x.hang(5, 3, 2);
        x.hang(11, 5, 2);
        x.hang(4, 6, 2);
        int[] then = {7, 1, 1, 2, 3, 1, 2, 1};
        for (int what = 0; what < 8; what++) {
            Check.due("balconyOf(5, " + what + ")", x.balconyOf(5, what), then[what]);
        }
        Check.due("balconyOf(5, 8)", x.balconyOf(5, 8), BAD);
        Check.due("balconyOf(5, -1)", x.balconyOf(5, -1), BAD);
        Check.due("balconyOf(-1, 0)", x.balconyOf(-1, 0), NONE);
        Check.due("balconyOf(12, 0)", x.balconyOf(12, 0), NONE);
        Check.due("balconyOf(12, 8): NONE is named first", x.balconyOf(12, 8), NONE);
    }

    private static void promise15Friends() {
        BalconyCensus x = new BalconyCensus();
        x.greet(3, 11);
        Check.due("one side alone", x.balconyOf(3, 7), 0);
        Check.due("one side alone", x.balconyOf(11, 7), 0);
        x.day();
        x.greet(11, 3);
        Check.due("some time", x.balconyOf(3, 7), 2048);
        Check.due("some time", x.balconyOf(11, 7), 8);
        x.greet(3, 0);
        x.greet(0, 3);
        Check.due("two friends", x.balconyOf(3, 7), 2049);
    }

    private static void promise16Feud() {
        BalconyCensus x = new BalconyCensus();
        x.plant(8, 3);
        x.plant(1, 9);
        Check.due("feud(0, 8) at the tolerance", x.feud(0, 8), 0);
        x.plant(8, 1);
        Check.due("feud(0, 8) two floors", x.feud(0, 8), 1);
        Check.due("feud(8, 0)", x.feud(8, 0), 1);
        Check.due("feud(8, 4)", x.feud(8, 4), 1);
        Check.due("feuds of 8, with those of 0 and 4", x.balconyOf(8, 3), 2);
        Check.due("feuds of 0", x.balconyOf(0, 3), 1);
        Check.due("feud(4, 0)", x.feud(4, 0), 0);
        Check.due("feud(1, 5): below does not count", x.feud(1, 5), 0);
        Check.due("feud(8, 9): another column", x.feud(8, 9), 0);
        Check.due("feud(7, 8): another column", x.feud(7, 8), 0);
        Check.due("feud(8, 8)", x.feud(8, 8), 0);
        x.hang(8, 0, 1);
        Check.due("feud(0, 8) with a line", x.feud(0, 8), 0);
        Check.due("feud(4, 8) with a line of others", x.feud(4, 8), 1);
        x.bear(4, 4);
        Check.due("feud(4, 8) with more tolerance", x.feud(4, 8), 0);
        x.bear(8, 0);
        Check.due("feud(4, 8): the tolerance of the upper one is idle", x.feud(4, 8), 0);
        Check.due("feud(-1, 0)", x.feud(-1, 0), NONE);
        Check.due("feud(0, -1)", x.feud(0, -1), NONE);
        Check.due("feud(12, 0)", x.feud(12, 0), NONE);
        Check.due("feud(0, 12)", x.feud(0, 12), NONE);
    }

    private static void promise17Greeted() {
        BalconyCensus x = new BalconyCensus();
        x.greet(2, 6);
        x.day();
        x.greet(2, 6);
        Check.due("greeted(2, 6)", x.greeted(2, 6), 2);
        Check.due("greeted(6, 2)", x.greeted(6, 2), 0);
        Check.due("greeted(2, 2)", x.greeted(2, 2), 0);
        Check.due("greeted(-1, 2)", x.greeted(-1, 2), NONE);
        Check.due("greeted(2, -1)", x.greeted(2, -1), NONE);
        Check.due("greeted(12, 2)", x.greeted(12, 2), NONE);
        Check.due("greeted(2, 12)", x.greeted(2, 12), NONE);
    }

    private static void promise18CatOf() {
        BalconyCensus x = new BalconyCensus();
        Check.due("catOf(0, 0) without cats", x.catOf(0, 0), NONE);
        x.cat(0);
        Check.due("steps home from home", x.catOf(0, 3), 0);
        x.swap(0, 7);
        Check.due("balcony", x.catOf(0, 0), 7);
        Check.due("home", x.catOf(0, 1), 0);
        Check.due("swaps", x.catOf(0, 2), 1);
        Check.due("steps home", x.catOf(0, 3), 4);
        x.plant(4, 4);
        x.plant(5, 4);
        x.plant(6, 4);
        Check.due("steps home by one column", x.catOf(0, 3), 4);
        x.plant(7, 4);
        Check.due("no way home", x.catOf(0, 3), NOTHING);
        Check.due("catOf(0, 4)", x.catOf(0, 4), BAD);
        Check.due("catOf(0, -1)", x.catOf(0, -1), BAD);
        Check.due("catOf(1, 0)", x.catOf(1, 0), NONE);
        Check.due("catOf(1, 9): NONE is named first", x.catOf(1, 9), NONE);
        Check.due("catOf(-1, 0)", x.catOf(-1, 0), NONE);
    }

    private static void promise19LineOf() {
        BalconyCensus x = new BalconyCensus();
        Check.due("lineOf(0, 0) without lines", x.lineOf(0, 0), NONE);
        x.hang(9, 2, 7);
        x.hang(1, 10, 5);
        Check.due("lineOf(0, 0)", x.lineOf(0, 0), 2);
        Check.due("lineOf(0, 1)", x.lineOf(0, 1), 9);
        Check.due("lineOf(0, 2)", x.lineOf(0, 2), 7);
        Check.due("lineOf(1, 0)", x.lineOf(1, 0), 1);
        Check.due("lineOf(1, 1)", x.lineOf(1, 1), 10);
        Check.due("lineOf(1, 2)", x.lineOf(1, 2), 5);
        Check.due("lineOf(0, 3)", x.lineOf(0, 3), BAD);
        Check.due("lineOf(0, -1)", x.lineOf(0, -1), BAD);
        Check.due("lineOf(2, 3): NONE is named first", x.lineOf(2, 3), NONE);
        Check.due("lineOf(-1, 0)", x.lineOf(-1, 0), NONE);
    }

    private static void promise37MeanPlants() {
        BalconyCensus x = new BalconyCensus();
        Check.dueNumber("meanPlants()", x.meanPlants(), 0.0);
        x.plant(0, 7);
        Check.dueNumber("meanPlants()", x.meanPlants(), 7.0 / 12.0);
        for (int balcony = 1; balcony < 12; balcony++) {
            x.plant(balcony, 9);
        }
        Check.dueNumber("meanPlants()", x.meanPlants(), 106.0 / 12.0);
    }

    private static void promise38HomeShare() {
        BalconyCensus x = new BalconyCensus();
        Check.dueNumber("homeShare() without cats", x.homeShare(), 0.0f);
        x.cat(0);
        x.cat(1);
        x.cat(2);
        Check.dueNumber("homeShare()", x.homeShare(), 1.0f);
        x.swap(0, 5);
        Check.dueNumber("homeShare()", x.homeShare(), 2.0f / 3.0f);
        x.swap(1, 2);
        Check.dueNumber("homeShare()", x.homeShare(), 0.0f);
        x.swap(5, 0);
        Check.dueNumber("homeShare()", x.homeShare(), 1.0f / 3.0f);
    }

    private static void promise39Account() {
        BalconyCensus x = new BalconyCensus();
        for (int what = 0; what < 14; what++) {
            Check.due("account(" + what + ") of a new object", x.account(what), 0);
        }
        x.plant(0, 7);
        x.plant(6, 6);
        x.give(0, 1, 2);
        x.give(1, 0, 1);
        x.cat(3);
        x.cat(4);
        x.cat(9);
        x.swap(3, 4);
        x.hang(1, 2, 1);
        x.hang(1, 3, 4);
        x.greet(0, 1);
        x.greet(2, 1);
        x.greet(1, 2);
        x.day();
        x.day();
        x.append('d');
        x.append('a');
        int[] want = {19, 1, 1, 3, 1, 2, 3, 3, 13, 6, 2, 2, 2, 8};
        for (int what = 0; what < 14; what++) {
            Check.due("account(" + what + ")", x.account(what), want[what]);
        }
        Check.due("account(14)", x.account(14), BAD);
        Check.due("account(-1)", x.account(-1), BAD);
    }
}

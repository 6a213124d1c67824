/** Promises 20 to 36: counts in two ways, ways of cats, circles, orders, written lines, and that all is well. */
public final class CountsTest {
    private static final int NONE = Check.NONE;
    private static final int BAD = Check.BAD;
    private static final int NOTHING = Check.NOTHING;

    public static void main(String[] args) {
        promises20To23Feuds();
        promises24And25Census();
        promises26And27Steps();
        promise28Way();
        promise29Circles();
        promise30WouldGrow();
        promise31Kindest();
        promise32Worst();
        promise33Write();
        promise34WriteLines();
        promise35Written();
        promise36IsWell();
        Check.end();
    }

    private static void dueFeuds(BalconyCensus x, String when, int feuds, int excess) {
        Check.due("feuds() " + when, x.feuds(), feuds);
        Check.due("feudsAgain() " + when, x.feudsAgain(), feuds);
        Check.due("excess() " + when, x.excess(), excess);
        Check.due("excessAgain() " + when, x.excessAgain(), excess);
        Check.due("isWell() " + when, x.isWell(), 1);
    }

    private static void promises20To23Feuds() {
        BalconyCensus x = new BalconyCensus();
        dueFeuds(x, "at first", 0, 0);
        x.plant(0, 9);
        dueFeuds(x, "below", 0, 0);
        x.plant(4, 5);
        dueFeuds(x, "one above", 1, 2);
        x.plant(8, 9);
        dueFeuds(x, "two above", 3, 8);
        x.bear(0, 7);
        dueFeuds(x, "with more tolerance below", 2, 6);
        x.bear(4, 8);
        dueFeuds(x, "with more tolerance between", 2, 2);
        x.hang(0, 8, 2);
        dueFeuds(x, "with a line over two floors", 1, 1);
        x.hang(8, 4, 1);
        dueFeuds(x, "with two lines", 0, 0);
        x.hang(8, 1, 1);
        x.hang(4, 5, 1);
        dueFeuds(x, "with lines across", 0, 0);
        x.plant(9, 9);
        dueFeuds(x, "in another column", 2, 6);
        x.bear(1, 0);
        dueFeuds(x, "without tolerance", 2, 9);
        x.hang(2, 6, 2);
        dueFeuds(x, "with a line where nobody feuds", 2, 9);
        Check.due("account(1)", x.account(1), 2);
        x.day();
        dueFeuds(x, "when lines are gone", 3, 10);
        x.undo();
        dueFeuds(x, "behind undo", 2, 9);
        x.bear(0, 0);
        Check.due("feuds of 4", x.balconyOf(4, 3), 1);
        x.undo();
        Check.due("excessAgain() behind undo", x.excessAgain(), 9);
        Check.due("excessAgain() once more", x.excessAgain(), 9);
    }

    private static void promises24And25Census() {
        BalconyCensus x = new BalconyCensus();
        Check.due("census()", x.census(), 0);
        Check.due("censusAgain()", x.censusAgain(), 0);
        x.greet(0, 11);
        x.greet(11, 0);
        x.greet(5, 0);
        x.day();
        x.greet(5, 0);
        Check.due("census()", x.census(), 4);
        Check.due("censusAgain()", x.censusAgain(), 4);
    }

    private static void dueSteps(BalconyCensus x, int one, int other, int want) {
        Check.due("steps(" + one + ", " + other + ")", x.steps(one, other), want);
        Check.due("steps(" + other + ", " + one + ")", x.steps(other, one), want);
        Check.due("stepsAgain(" + one + ", " + other + ")", x.stepsAgain(one, other), want);
        Check.due("stepsAgain(" + other + ", " + one + ")", x.stepsAgain(other, one), want);
    }

    private static void promises26And27Steps() {
        BalconyCensus x = new BalconyCensus();
        dueSteps(x, 0, 0, 0);
        dueSteps(x, 3, 4, 4);
        dueSteps(x, 0, 11, 5);
        x.cat(1);
        x.cat(4);
        dueSteps(x, 0, 11, 5);
        x.plant(5, 4);
        x.plant(6, 4);
        x.plant(7, 4);
        dueSteps(x, 3, 7, 7);
        dueSteps(x, 3, 11, 8);
        x.plant(8, 4);
        dueSteps(x, 3, 11, 8);
        dueSteps(x, 0, 8, 4);
        x.plant(4, 9);
        dueSteps(x, 3, 7, NOTHING);
        dueSteps(x, 0, 3, 3);
        dueSteps(x, 8, 7, 4);
        x.hang(3, 7, 1);
        dueSteps(x, 3, 7, 1);
        dueSteps(x, 0, 4, 7);
        Check.due("steps(-1, 0)", x.steps(-1, 0), NONE);
        Check.due("steps(0, -1)", x.steps(0, -1), NONE);
        Check.due("steps(12, 12)", x.steps(12, 12), NONE);
        Check.due("steps(0, 12)", x.steps(0, 12), NONE);
        Check.due("stepsAgain(-1, 0)", x.stepsAgain(-1, 0), NONE);
        Check.due("stepsAgain(0, -1)", x.stepsAgain(0, -1), NONE);
        Check.due("stepsAgain(12, 0)", x.stepsAgain(12, 0), NONE);
        Check.due("stepsAgain(0, 12)", x.stepsAgain(0, 12), NONE);
    }

    private static void dueWay(BalconyCensus x, int... way) {
        int one = way[0];
        int other = way[way.length - 1];
        for (int place = 0; place < way.length; place++) {
            Check.due("way(" + one + ", " + other + ", " + place + ")", x.way(one, other, place), way[place]);
        }
        Check.due("way beyond the end", x.way(one, other, way.length), NOTHING);
        Check.due("way ahead of the start", x.way(one, other, -1), NOTHING);
        Check.due("way far beyond", x.way(one, other, Integer.MAX_VALUE), NOTHING);
    }

    private static void promise28Way() {
        BalconyCensus x = new BalconyCensus();
        dueWay(x, 0, 1, 2, 3, 7, 11);
        dueWay(x, 11, 7, 3, 2, 1, 0);
        dueWay(x, 8, 4, 0, 1, 2, 3);
        dueWay(x, 5);
        x.plant(6, 5);
        x.plant(7, 5);
        dueWay(x, 2, 1, 5, 6);
        dueWay(x, 11, 7, 6, 5, 1, 2);
        x.plant(4, 5);
        x.plant(5, 5);
        Check.due("no way", x.way(2, 6, 0), NOTHING);
        Check.due("way to the same", x.way(2, 2, 0), 2);
        Check.due("way(-1, 0, 0)", x.way(-1, 0, 0), NONE);
        Check.due("way(0, -1, 0)", x.way(0, -1, 0), NONE);
        Check.due("way(12, 0, 99)", x.way(12, 0, 99), NONE);
        Check.due("way(0, 12, 0)", x.way(0, 12, 0), NONE);
    }

    private static void befriend(BalconyCensus x, int one, int other) {
        x.greet(one, other);
        x.greet(other, one);
    }

    private static void promise29Circles() {
        BalconyCensus x = new BalconyCensus();
        Check.due("circles()", x.circles(), 12);
        x.greet(0, 1);
        x.greet(1, 2);
        x.greet(2, 0);
        Check.due("circles() from one side", x.circles(), 12);
        befriend(x, 11, 5);
        befriend(x, 5, 0);
        befriend(x, 0, 9);
        Check.due("circles() of friends of friends", x.circles(), 9);
        befriend(x, 11, 9);
        Check.due("circles() in a ring", x.circles(), 9);
        befriend(x, 3, 4);
        Check.due("circles()", x.circles(), 8);
        for (int balcony = 11; balcony > 0; balcony--) {
            befriend(x, balcony, balcony - 1);
        }
        Check.due("circles() of a chain", x.circles(), 1);
    }

    private static void promise30WouldGrow() {
        BalconyCensus x = new BalconyCensus();
        Check.due("wouldGrow(20) of nothing", x.wouldGrow(20), 0);
        x.plant(0, 1);
        x.plant(4, 2);
        x.plant(3, 5);
        x.hang(0, 1, 2);
        x.greet(0, 1);
        String before = Check.sightOf(x);
        Check.due("wouldGrow(0)", x.wouldGrow(0), 8);
        Check.due("wouldGrow(1)", x.wouldGrow(1), 10);
        Check.due("wouldGrow(7)", x.wouldGrow(7), 19);
        Check.due("wouldGrow(8)", x.wouldGrow(8), 19);
        Check.due("wouldGrow(20)", x.wouldGrow(20), 19);
        Check.due("wouldGrow(-1)", x.wouldGrow(-1), BAD);
        Check.due("wouldGrow(21)", x.wouldGrow(21), BAD);
        Check.dueText("all behind wouldGrow", Check.sightOf(x), before);
        Check.due("greeted today still", x.greet(0, 1), Check.REFUSED);
    }

    private static void dueOrder(BalconyCensus x, boolean isKindest, int... order) {
        for (int place = 0; place < order.length; place++) {
            int got = isKindest ? x.kindest(place) : x.worst(place);
            Check.due((isKindest ? "kindest(" : "worst(") + place + ")", got, order[place]);
        }
    }

    private static void promise31Kindest() {
        BalconyCensus x = new BalconyCensus();
        dueOrder(x, true, 0, 1, 2, 3, 4, 5, 6, 7, 8, 9, 10, 11);
        x.greet(11, 3);
        x.greet(11, 2);
        x.greet(7, 3);
        x.greet(5, 7);
        x.greet(4, 11);
        dueOrder(x, true, 11, 7, 4, 5, 3, 2, 0, 1, 6, 8, 9, 10);
        x.greet(0, 11);
        x.greet(0, 7);
        x.greet(0, 1);
        dueOrder(x, true, 0, 11, 7, 4, 5, 3, 1, 2, 6, 8, 9, 10);
        Check.due("kindest(-1)", x.kindest(-1), NONE);
        Check.due("kindest(12)", x.kindest(12), NONE);
    }

    private static void promise32Worst() {
        BalconyCensus x = new BalconyCensus();
        dueOrder(x, false, 0, 1, 2, 3, 4, 5, 6, 7, 8, 9, 10, 11);
        x.plant(2, 9);
        x.plant(1, 9);
        x.plant(8, 5);
        x.plant(7, 4);
        dueOrder(x, false, 8, 7, 0, 3, 4, 1, 2, 5, 6, 9, 10, 11);
        Check.due("worst(-1)", x.worst(-1), NONE);
        Check.due("worst(12)", x.worst(12), NONE);
    }

    private static void promise33Write() {
        BalconyCensus x = new BalconyCensus();
        Check.dueText("write(2)", Check.lineOf(x, x.write(2)), "0 0 0 0");
        x.plant(0, 3);
        x.cat(0);
        x.plant(6, 5);
        x.cat(6);
        for (int balcony = 8; balcony < 12; balcony++) {
            x.cat(balcony);
        }
        Check.dueText("write(0)", Check.lineOf(x, x.write(0)), "3a 0 0! 0");
        Check.dueText("write(1)", Check.lineOf(x, x.write(1)), "0 0 5b! 0");
        Check.dueText("write(2)", Check.lineOf(x, x.write(2)), "0c 0d 0e 0f");
        Check.due("write(-1)", x.write(-1), NONE);
        Check.due("write(3)", x.write(3), NONE);
        Check.dueText("the line stays", Check.lineOf(x, 11), "0c 0d 0e 0f");
    }

    private static void promise34WriteLines() {
        BalconyCensus x = new BalconyCensus();
        x.write(0);
        Check.dueText("writeLines()", Check.lineOf(x, x.writeLines()), "");
        x.hang(5, 1, 4);
        x.hang(11, 0, 9);
        x.hang(2, 3, 1);
        Check.dueText("writeLines()", Check.lineOf(x, x.writeLines()), "1-5:4 0-11:9 2-3:1");
        x.day();
        Check.dueText("writeLines()", Check.lineOf(x, x.writeLines()), "1-5:3 0-11:8");
        x.hang(10, 11, 9);
        x.hang(9, 11, 9);
        x.hang(8, 11, 9);
        x.hang(7, 11, 9);
        Check.dueText("writeLines()", Check.lineOf(x, x.writeLines()), "1-5:3 0-11:8 10-11:9 9-11:9 8-11:9 7-11:9");
    }

    private static void promise35Written() {
        BalconyCensus x = new BalconyCensus();
        Check.due("written(0) at first", x.written(0), NONE);
        x.plant(7, 6);
        x.write(1);
        Check.due("written(6)", x.written(6), '6');
        Check.due("written(7)", x.written(7), '!');
        Check.due("written(8)", x.written(8), NONE);
        Check.due("written(-1)", x.written(-1), NONE);
        Check.due("written(the greatest)", x.written(Integer.MAX_VALUE), NONE);
        x.undo();
        x.clear();
        Check.dueText("the line stays", Check.lineOf(x, 8), "0 0 0 6!");
    }

    private static void promise36IsWell() {
        BalconyCensus x = new BalconyCensus();
        Check.due("isWell()", x.isWell(), 1);
        for (int balcony = 0; balcony < 12; balcony++) {
            x.plant(balcony, 1 + balcony * 5 % 9);
            x.bear(balcony, balcony * 7 % 10);
            x.cat(balcony);
            x.greet(balcony, balcony * 7 % 12);
            x.hang(balcony, (balcony + 4) % 12, 2);
            String before = Check.sightOf(x);
            Check.due("isWell()", x.isWell(), 1);
            Check.dueText("all behind isWell", Check.sightOf(x), before);
        }
    }
}

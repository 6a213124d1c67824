/** Promises 1 to 42: long runs of calls, each answer compared with that of the model. */
public final class ModelTest {
    private static final int RUNS = 400;
    private static final int CALLS = 512;
    private static final String[] WORDS = {"plant", "bear", "hang", "greet", "give", "cat", "swap", "day"};

    private final BalconyCensus x = new BalconyCensus();
    private final Model model = new Model();
    private final int run;
    /** How far numbers leave their ranges: some runs stay in them, so that much happens. */
    private final boolean isWild;
    private long seed;
    private int calls;

    private ModelTest(int run) {
        this.run = run;
        this.isWild = run % 4 == 0;
        this.seed = 1000003L * run + 17;
    }

    public static void main(String[] args) {
        for (int run = 0; run < RUNS; run++) {
            new ModelTest(run).go();
        }
        Check.end();
    }

    private int pick(int bound) {
        seed = seed * 6364136223846793005L + 1442695040888963407L;
        return (int) ((seed >>> 33) % bound);
    }

    private int number(int low, int high) {
        if (isWild && pick(6) == 0) {
            int[] odd = {low - 1, high + 1, Integer.MIN_VALUE, Integer.MAX_VALUE, -5, 100};
            return odd[pick(odd.length)];
        }
        return low + pick(high - low + 1);
    }

    private int balcony() {
        int balcony = number(0, 11);
        // Some runs happen in two columns alone, so that more balconies are above others.
        return run % 3 == 0 && balcony >= 0 && balcony < 12 ? balcony / 4 * 4 + pick(2) : balcony;
    }

    private void due(String call, long got, long want) {
        calls++;
        Check.due("run " + run + ", call " + calls + ": " + call, got, want);
    }

    private void go() {
        while (calls < CALLS - 80) {
            int kind = pick(100);
            if (kind < 45) {
                change();
            } else if (kind < 52) {
                text();
            } else if (kind < 58) {
                memory();
            } else {
                look(pick(29));
            }
        }
        for (int kind = 0; kind < 29; kind++) {
            look(kind);
        }
    }

    private void change() {
        int a = balcony();
        int b = balcony();
        int plants = number(1, pick(3) == 0 ? 9 : 3);
        int tolerance = number(0, 9);
        int days = number(1, pick(2) == 0 ? 9 : 3);
        String word = WORDS[pick(8)];
        switch (word) {
            case "plant": due("plant(" + a + ", " + plants + ")", x.plant(a, plants), model.change(word, a, plants, 0)); break;
            case "bear": due("bear(" + a + ", " + tolerance + ")", x.bear(a, tolerance), model.change(word, a, tolerance, 0)); break;
            case "hang": due("hang(" + a + ", " + b + ", " + days + ")", x.hang(a, b, days), model.change(word, a, b, days)); break;
            case "greet": due("greet(" + a + ", " + b + ")", x.greet(a, b), model.change(word, a, b, 0)); break;
            case "give": due("give(" + a + ", " + b + ", " + plants + ")", x.give(a, b, plants), model.change(word, a, b, plants)); break;
            case "cat": due("cat(" + a + ")", x.cat(a), model.change(word, a, 0, 0)); break;
            case "swap": due("swap(" + a + ", " + b + ")", x.swap(a, b), model.change(word, a, b, 0)); break;
            default:
                // Days are rarer, so that plants and lines do not all come to an end.
                if (pick(2) == 0) {
                    due("day()", x.day(), model.change(word, 0, 0, 0));
                }
        }
        reasons();
    }

    private void reasons() {
        int depth = number(0, 1);
        boolean isDetail = pick(2) == 0;
        due("reason(" + depth + ", " + isDetail + ")", x.reason(depth, isDetail), model.reason(depth, isDetail));
    }

    private String command() {
        String a = pick(12) == 0 ? "12" : pick(6) == 0 ? "0" + pick(10) : "" + pick(12);
        String b = pick(20) == 0 ? "13" : "" + pick(12);
        String word = WORDS[pick(8)];
        switch (word) {
            case "plant": return word + " " + a + " " + pick(4);
            case "bear": return word + " " + a + " " + pick(10);
            case "hang":
            case "give": return word + " " + a + " " + b + " " + pick(5);
            case "cat": return word + " " + a;
            case "day": return word;
            default: return word + " " + a + " " + b;
        }
    }

    private void text() {
        StringBuilder text = new StringBuilder(command());
        for (int more = pick(3); more > 0; more--) {
            text.append(';').append(command());
        }
        if (pick(3) == 0) {
            damage(text);
        }
        for (int index = 0; index < text.length() && index < 45; index++) {
            due("append of '" + text + "'", x.append(text.charAt(index)), model.append(text.charAt(index)));
        }
        due("read() of '" + text + "'", x.read(), model.read());
        due("fault() of '" + text + "'", x.fault(), model.fault());
        for (int depth = 0; depth < 2; depth++) {
            due("reason(" + depth + ", false)", x.reason(depth, false), model.reason(depth, false));
            due("reason(" + depth + ", true)", x.reason(depth, true), model.reason(depth, true));
        }
    }

    private void damage(StringBuilder text) {
        int place = pick(text.length());
        String signs = "0123456789 ;abcdeghilnprstvwy~" + (char) 31 + (char) 200;
        switch (pick(4)) {
            case 0: text.setLength(place); break;
            case 1: text.deleteCharAt(place); break;
            case 2: text.insert(place, signs.charAt(pick(signs.length()))); break;
            default: text.setCharAt(place, signs.charAt(pick(signs.length())));
        }
    }

    private void memory() {
        switch (pick(12)) {
            case 0: due("clear()", x.clear(), model.clear()); break;
            case 1:
            case 2: due("save()", x.save(), model.save()); break;
            case 3: due("restore()", x.restore(), model.restore()); break;
            default: due("undo()", x.undo(), model.undo());
        }
    }

    private void look(int kind) {
        int a = balcony();
        int b = balcony();
        int n = number(0, 5);
        switch (kind) {
            case 0: due("fault()", x.fault(), model.fault()); break;
            case 1: reasons(); break;
            case 2: {
                int what = number(0, 7);
                due("balconyOf(" + a + ", " + what + ")", x.balconyOf(a, what), model.balconyOf(a, what));
                break;
            }
            case 3: due("feud(" + a + ", " + b + ")", x.feud(a, b), model.feud(a, b)); break;
            case 4: due("greeted(" + a + ", " + b + ")", x.greeted(a, b), model.greeted(a, b)); break;
            case 5: {
                int what = number(0, 3);
                due("catOf(" + n + ", " + what + ")", x.catOf(n, what), model.catOf(n, what));
                break;
            }
            case 6: {
                int what = number(0, 2);
                due("lineOf(" + n + ", " + what + ")", x.lineOf(n, what), model.lineOf(n, what));
                break;
            }
            case 7: due("feuds()", x.feuds(), model.feuds()); break;
            case 8: due("feudsAgain()", x.feudsAgain(), model.feuds()); break;
            case 9: due("excess()", x.excess(), model.excess()); break;
            case 10: due("excessAgain()", x.excessAgain(), model.excess()); break;
            case 11: due("census()", x.census(), model.census()); break;
            case 12: due("censusAgain()", x.censusAgain(), model.census()); break;
            case 13: due("steps(" + a + ", " + b + ")", x.steps(a, b), model.steps(a, b)); break;
            case 14: due("stepsAgain(" + a + ", " + b + ")", x.stepsAgain(a, b), model.steps(a, b)); break;
            case 15: due("way(" + a + ", " + b + ", " + n + ")", x.way(a, b, n), model.way(a, b, n)); break;
            case 16: due("circles()", x.circles(), model.circles()); break;
            case 17: {
                int days = number(0, 20);
                due("wouldGrow(" + days + ")", x.wouldGrow(days), model.wouldGrow(days));
                break;
            }
            case 18: due("kindest(" + a + ")", x.kindest(a), model.kindest(a)); break;
            case 19: due("worst(" + a + ")", x.worst(a), model.worst(a)); break;
            case 20: {
                int floor = number(0, 2);
                due("write(" + floor + ")", x.write(floor), model.write(floor));
                break;
            }
            case 21: due("writeLines()", x.writeLines(), model.writeLines()); break;
            case 22: {
                int index = number(0, 12);
                due("written(" + index + ")", x.written(index), model.written(index));
                break;
            }
            case 23: due("isWell()", x.isWell(), 1); break;
            case 24: due("meanPlants()", Double.doubleToLongBits(x.meanPlants()), Double.doubleToLongBits(model.meanPlants())); break;
            case 25: due("homeShare()", Float.floatToIntBits(x.homeShare()), Float.floatToIntBits(model.homeShare())); break;
            default: {
                int what = number(0, 13);
                due("account(" + what + ")", x.account(what), model.account(what));
            }
        }
    }
}

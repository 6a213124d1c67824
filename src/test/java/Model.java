import java.util.ArrayDeque;
import java.util.ArrayList;
import java.util.Comparator;
import java.util.Deque;
import java.util.List;
import java.util.Map;
import java.util.TreeMap;
import java.util.TreeSet;
import java.util.regex.Matcher;
import java.util.regex.Pattern;

/**
 * The document a second time, with the whole Java library and without looking at the class:
 * what it answers is compared with the class in long runs.
 */
final class Model {
    private static final String NUMBER = "[0-9][0-9]?";
    private static final String COMMAND = "(?:plant N D|bear N D|hang N N D|greet N N|give N N D|cat N|swap N N|day)"
            .replace("N", NUMBER).replace("D", "[0-9]");
    private static final Pattern TEXT = Pattern.compile(COMMAND + "(?:;" + COMMAND + ")*");

    private record Hung(int low, int high, int days) {
    }

    private record Tenant(int at, int home, int swaps) {
    }

    private static final class State {
        Map<Integer, Integer> plants = new TreeMap<>();
        Map<Integer, Integer> tolerance = new TreeMap<>();
        List<Hung> lines = new ArrayList<>();
        List<Tenant> cats = new ArrayList<>();
        /** Each greeting as a text "one>other@day". */
        List<String> greetings = new ArrayList<>();
        int day;
        int given;
        int put;
        int grown;
        int hung;

        State copy() {
            State s = new State();
            s.plants.putAll(plants);
            s.tolerance.putAll(tolerance);
            s.lines.addAll(lines);
            s.cats.addAll(cats);
            s.greetings.addAll(greetings);
            s.day = day;
            s.given = given;
            s.put = put;
            s.grown = grown;
            s.hung = hung;
            return s;
        }
    }

    private State now = new State();
    private State saved = null;
    private final Deque<State> past = new ArrayDeque<>();
    private String input = "";
    private int fault = -4;
    private List<int[]> reasons = new ArrayList<>();
    private String line = "";

    private static boolean ok(int balcony) {
        return 0 <= balcony && balcony <= 11;
    }

    private int plantsOf(State s, int b) {
        return s.plants.getOrDefault(b, 0);
    }

    private int toleranceOf(State s, int b) {
        return s.tolerance.getOrDefault(b, 3);
    }

    private int total(State s) {
        return s.plants.values().stream().mapToInt(Integer::intValue).sum();
    }

    private boolean isAbove(int upper, int lower) {
        return upper % 4 == lower % 4 && upper / 4 > lower / 4;
    }

    private Hung lineBetween(State s, int a, int b) {
        return s.lines.stream().filter(h -> h.low == a && h.high == b || h.low == b && h.high == a)
                .findFirst().orElse(null);
    }

    private boolean quarrel(State s, int upper, int lower) {
        return isAbove(upper, lower) && plantsOf(s, upper) > toleranceOf(s, lower)
                && lineBetween(s, upper, lower) == null;
    }

    private boolean feuding(State s, int a, int b) {
        return quarrel(s, a, b) || quarrel(s, b, a);
    }

    private int catAt(State s, int b) {
        for (int i = 0; i < s.cats.size(); i++) {
            if (s.cats.get(i).at == b) {
                return i;
            }
        }
        return -4;
    }

    private int timesGreeted(State s, int a, int b) {
        return (int) s.greetings.stream().filter(g -> g.startsWith(a + ">" + b + "@")).count();
    }

    private int refused(int reason, int detail) {
        reasons = new ArrayList<>(List.of(new int[] {reason, detail}));
        return -3;
    }

    /** Carries out words like those of a text; the numbers may be any. */
    private int perform(State s, String word, int a, int b, int c) {
        switch (word) {
            case "plant":
                if (!ok(a)) {
                    return -1;
                }
                if (b < 1 || b > 9) {
                    return -2;
                }
                if (plantsOf(s, a) + b > 9) {
                    return refused(4, plantsOf(s, a));
                }
                s.put += b;
                return s.plants.merge(a, b, Integer::sum);
            case "bear":
                if (!ok(a)) {
                    return -1;
                }
                if (b < 0 || b > 9) {
                    return -2;
                }
                int old = toleranceOf(s, a);
                if (old == b) {
                    return refused(3, b);
                }
                s.tolerance.put(a, b);
                return old;
            case "hang":
                if (!ok(a) || !ok(b)) {
                    return -1;
                }
                if (c < 1 || c > 9) {
                    return -2;
                }
                if (a == b) {
                    return refused(2, a);
                }
                if (lineBetween(s, a, b) != null) {
                    return refused(3, lineBetween(s, a, b).days);
                }
                if (s.lines.size() == 6) {
                    return refused(1, 6);
                }
                s.lines.add(new Hung(Math.min(a, b), Math.max(a, b), c));
                s.hung++;
                return s.lines.size() - 1;
            case "greet":
                if (!ok(a) || !ok(b)) {
                    return -1;
                }
                if (a == b) {
                    return refused(2, a);
                }
                if (feuding(s, a, b)) {
                    return refused(5, isAbove(a, b) ? a : b);
                }
                if (s.greetings.contains(a + ">" + b + "@" + s.day)) {
                    return refused(7, timesGreeted(s, a, b));
                }
                s.greetings.add(a + ">" + b + "@" + s.day);
                return timesGreeted(s, a, b);
            case "give":
                if (!ok(a) || !ok(b)) {
                    return -1;
                }
                if (c < 1 || c > 9) {
                    return -2;
                }
                if (a == b) {
                    return refused(2, a);
                }
                if (feuding(s, a, b)) {
                    return refused(5, isAbove(a, b) ? a : b);
                }
                if (plantsOf(s, a) < c) {
                    return refused(6, plantsOf(s, a));
                }
                if (plantsOf(s, b) + c > 9) {
                    return refused(4, plantsOf(s, b));
                }
                s.plants.merge(a, -c, Integer::sum);
                s.given += c;
                return s.plants.merge(b, c, Integer::sum);
            case "cat":
                if (!ok(a)) {
                    return -1;
                }
                if (catAt(s, a) >= 0) {
                    return refused(8, catAt(s, a));
                }
                if (s.cats.size() == 6) {
                    return refused(1, 6);
                }
                s.cats.add(new Tenant(a, a, 0));
                return s.cats.size() - 1;
            case "swap":
                if (!ok(a) || !ok(b)) {
                    return -1;
                }
                if (a == b) {
                    return refused(2, a);
                }
                if (feuding(s, a, b)) {
                    return refused(5, isAbove(a, b) ? a : b);
                }
                if (catAt(s, a) < 0 && catAt(s, b) < 0) {
                    return refused(9, s.cats.size());
                }
                int going = 0;
                for (int i = 0; i < s.cats.size(); i++) {
                    Tenant t = s.cats.get(i);
                    if (t.at == a || t.at == b) {
                        s.cats.set(i, new Tenant(t.at == a ? b : a, t.home, t.swaps + 1));
                        going++;
                    }
                }
                return going;
            default:
                return passDay(s);
        }
    }

    private int passDay(State s) {
        List<Integer> growing = new ArrayList<>();
        for (int b = 0; b < 12; b++) {
            int own = plantsOf(s, b);
            boolean isShaded = false;
            for (int upper = 0; upper < 12; upper++) {
                isShaded |= isAbove(upper, b) && plantsOf(s, upper) > own;
            }
            if (own >= 1 && own <= 8 && !isShaded) {
                growing.add(b);
            }
        }
        growing.forEach(b -> s.plants.merge(b, 1, Integer::sum));
        s.grown += growing.size();
        List<Hung> rest = new ArrayList<>();
        for (Hung h : s.lines) {
            if (h.days - 1 > 0) {
                rest.add(new Hung(h.low, h.high, h.days - 1));
            }
        }
        s.lines = rest;
        s.day++;
        return growing.size();
    }

    private void remember(State before) {
        past.push(before);
        if (past.size() > 8) {
            past.removeLast();
        }
    }

    int change(String word, int a, int b, int c) {
        State before = now.copy();
        int answer = perform(now, word, a, b, c);
        if (answer >= 0) {
            remember(before);
        }
        return answer;
    }

    int clear() {
        int before = total(now);
        now = new State();
        past.clear();
        return before;
    }

    int append(char c) {
        if (c < ' ' || c > '~' || input.length() == 60) {
            return -2;
        }
        input += c;
        return input.length();
    }

    private static boolean canContinue(String prefix) {
        Matcher matcher = TEXT.matcher(prefix);
        return matcher.matches() || matcher.hitEnd();
    }

    int read() {
        String text = input;
        input = "";
        if (!TEXT.matcher(text).matches()) {
            int good = 0;
            while (good < text.length() && canContinue(text.substring(0, good + 1))) {
                good++;
            }
            fault = good;
            return -2;
        }
        State trial = now.copy();
        String[] commands = text.split(";");
        for (int i = 0; i < commands.length; i++) {
            String[] words = commands[i].split(" ");
            int[] n = new int[3];
            for (int j = 1; j < words.length; j++) {
                n[j - 1] = Integer.parseInt(words[j]);
            }
            int answer = perform(trial, words[0], n[0], n[1], n[2]);
            if (answer == -3) {
                reasons.add(0, new int[] {10, i});
                return -3;
            }
            if (answer < 0) {
                return refused(11, i);
            }
        }
        remember(now);
        now = trial;
        return commands.length;
    }

    int fault() {
        return fault;
    }

    int reason(int depth, boolean isDetail) {
        if (depth != 0 && depth != 1) {
            return -2;
        }
        return depth < reasons.size() ? reasons.get(depth)[isDetail ? 1 : 0] : -4;
    }

    private int feudsOf(State s, int b) {
        int sum = 0;
        for (int other = 0; other < 12; other++) {
            sum += feuding(s, b, other) ? 1 : 0;
        }
        return sum;
    }

    private int gave(int b) {
        return (int) now.greetings.stream().filter(g -> g.startsWith(b + ">")).count();
    }

    private int got(int b) {
        return (int) now.greetings.stream().filter(g -> g.contains(">" + b + "@")).count();
    }

    private boolean areFriends(int a, int b) {
        return timesGreeted(now, a, b) > 0 && timesGreeted(now, b, a) > 0;
    }

    int balconyOf(int b, int what) {
        if (!ok(b)) {
            return -1;
        }
        switch (what) {
            case 0: return plantsOf(now, b);
            case 1: return toleranceOf(now, b);
            case 2: return catAt(now, b);
            case 3: return feudsOf(now, b);
            case 4: return gave(b);
            case 5: return got(b);
            case 6: return (int) now.lines.stream().filter(h -> h.low == b || h.high == b).count();
            case 7:
                int set = 0;
                for (int other = 0; other < 12; other++) {
                    set += areFriends(b, other) ? (int) Math.pow(2, other) : 0;
                }
                return set;
            default: return -2;
        }
    }

    int feud(int a, int b) {
        return !ok(a) || !ok(b) ? -1 : feuding(now, a, b) ? 1 : 0;
    }

    int greeted(int a, int b) {
        return !ok(a) || !ok(b) ? -1 : timesGreeted(now, a, b);
    }

    int catOf(int cat, int what) {
        if (cat < 0 || cat >= now.cats.size()) {
            return -1;
        }
        Tenant t = now.cats.get(cat);
        switch (what) {
            case 0: return t.at;
            case 1: return t.home;
            case 2: return t.swaps;
            case 3: return steps(t.at, t.home);
            default: return -2;
        }
    }

    int lineOf(int number, int what) {
        if (number < 0 || number >= now.lines.size()) {
            return -1;
        }
        Hung h = now.lines.get(number);
        switch (what) {
            case 0: return h.low;
            case 1: return h.high;
            case 2: return h.days;
            default: return -2;
        }
    }

    int feuds() {
        int sum = 0;
        for (int b = 0; b < 12; b++) {
            sum += feudsOf(now, b);
        }
        return sum / 2;
    }

    /** The least sum of plants taken so that nobody feuds, each balcony by trying. */
    int excess() {
        State s = now.copy();
        int taken = 0;
        for (int upper = 0; upper < 12; upper++) {
            for (int lower = 0; lower < 12; lower++) {
                while (quarrel(s, upper, lower)) {
                    s.plants.merge(upper, -1, Integer::sum);
                    taken++;
                }
            }
        }
        return taken;
    }

    int census() {
        return now.greetings.size();
    }

    private boolean isStep(int a, int b) {
        int apart = Math.abs(a / 4 - b / 4) + Math.abs(a % 4 - b % 4);
        return apart == 1 && !feuding(now, a, b);
    }

    /** All ways with the fewest steps, by making ways longer; the first in order is the one told. */
    private List<Integer> wayTold(int a, int b) {
        Map<Integer, List<Integer>> best = new TreeMap<>();
        best.put(a, List.of(a));
        for (int step = 0; step < 12; step++) {
            Map<Integer, List<Integer>> next = new TreeMap<>();
            for (List<Integer> way : best.values()) {
                if (way.size() != step + 1) {
                    continue;
                }
                for (int to = 0; to < 12; to++) {
                    if (isStep(way.get(step), to) && !best.containsKey(to)) {
                        List<Integer> longer = new ArrayList<>(way);
                        longer.add(to);
                        next.merge(to, longer, Model::earlier);
                    }
                }
            }
            best.putAll(next);
        }
        return best.get(b);
    }

    private static List<Integer> earlier(List<Integer> one, List<Integer> other) {
        for (int i = 0; i < one.size(); i++) {
            if (!one.get(i).equals(other.get(i))) {
                return one.get(i) < other.get(i) ? one : other;
            }
        }
        return one;
    }

    int steps(int a, int b) {
        if (!ok(a) || !ok(b)) {
            return -1;
        }
        List<Integer> way = wayTold(a, b);
        return way == null ? -4 : way.size() - 1;
    }

    int way(int a, int b, int place) {
        if (!ok(a) || !ok(b)) {
            return -1;
        }
        List<Integer> way = wayTold(a, b);
        return way == null || place < 0 || place >= way.size() ? -4 : way.get(place);
    }

    int circles() {
        int[] name = new int[12];
        for (int b = 0; b < 12; b++) {
            name[b] = b;
        }
        for (int a = 0; a < 12; a++) {
            for (int b = 0; b < 12; b++) {
                if (areFriends(a, b)) {
                    int from = name[a];
                    int to = name[b];
                    for (int c = 0; c < 12; c++) {
                        name[c] = name[c] == from ? to : name[c];
                    }
                }
            }
        }
        TreeSet<Integer> names = new TreeSet<>();
        for (int one : name) {
            names.add(one);
        }
        return names.size();
    }

    int wouldGrow(int days) {
        if (days < 0 || days > 20) {
            return -2;
        }
        State s = now.copy();
        for (int i = 0; i < days; i++) {
            passDay(s);
        }
        return total(s);
    }

    private int ordered(Comparator<Integer> order, int place) {
        List<Integer> all = new ArrayList<>();
        for (int b = 0; b < 12; b++) {
            all.add(b);
        }
        all.sort(order);
        return place < 0 || place >= 12 ? -1 : all.get(place);
    }

    int kindest(int place) {
        return ordered(Comparator.<Integer>comparingInt(b -> -gave(b)).thenComparingInt(b -> -got(b)), place);
    }

    int worst(int place) {
        return ordered(Comparator.<Integer>comparingInt(b -> -feudsOf(now, b))
                .thenComparingInt(b -> -plantsOf(now, b)), place);
    }

    int write(int floor) {
        if (floor < 0 || floor > 2) {
            return -1;
        }
        List<String> parts = new ArrayList<>();
        for (int b = floor * 4; b < floor * 4 + 4; b++) {
            int cat = catAt(now, b);
            parts.add(plantsOf(now, b) + (cat < 0 ? "" : "abcdef".substring(cat, cat + 1))
                    + (feudsOf(now, b) > 0 ? "!" : ""));
        }
        line = String.join(" ", parts);
        return line.length();
    }

    int writeLines() {
        List<String> parts = new ArrayList<>();
        for (Hung h : now.lines) {
            parts.add(h.low + "-" + h.high + ":" + h.days);
        }
        line = String.join(" ", parts);
        return line.length();
    }

    int written(int index) {
        return index < 0 || index >= line.length() ? -1 : line.charAt(index);
    }

    double meanPlants() {
        return (double) total(now) / 12.0;
    }

    private long atHome() {
        return now.cats.stream().filter(t -> t.at == t.home).count();
    }

    float homeShare() {
        return now.cats.isEmpty() ? 0.0f : (float) atHome() / (float) now.cats.size();
    }

    int account(int what) {
        switch (what) {
            case 0: return total(now);
            case 1: return feuds();
            case 2: return now.lines.size();
            case 3: return now.cats.size();
            case 4: return (int) atHome();
            case 5: return now.day;
            case 6: return now.greetings.size();
            case 7: return now.given;
            case 8: return now.put;
            case 9: return now.grown;
            case 10: return now.cats.stream().mapToInt(Tenant::swaps).sum();
            case 11: return now.hung;
            case 12: return input.length();
            case 13: return past.size();
            default: return -2;
        }
    }

    int undo() {
        if (past.isEmpty()) {
            return -4;
        }
        now = past.pop();
        return past.size();
    }

    int save() {
        saved = now.copy();
        return total(now);
    }

    int restore() {
        if (saved == null) {
            return -4;
        }
        now = saved.copy();
        past.clear();
        return total(now);
    }
}

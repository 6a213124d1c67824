import java.util.Arrays;

/** A census of twelve balconies, their plants, feuds, laundry lines, greetings and cats. */
public final class BalconyCensus {
    public static final int NONE = -1;
    public static final int BAD = -2;
    public static final int REFUSED = -3;
    public static final int NOTHING = -4;

    private static final int BALCONIES = 12;
    private static final int COLUMNS = 4;
    private static final int FLOORS = 3;
    private static final int DIRECTIONS = 4;
    private static final int MOST_PLANTS = 9;
    private static final int MOST_TOLERANCE = 9;
    private static final int FIRST_TOLERANCE = 3;
    private static final int MOST_LINES = 6;
    private static final int MOST_LINE_DAYS = 9;
    private static final int MOST_CATS = 6;
    private static final int MOST_DAYS_AHEAD = 20;
    private static final int MOST_CHANGES = 8;
    private static final int INPUT_SIZE = 60;
    private static final int FIRST_CODE = 32;
    private static final int LAST_CODE = 126;
    /** No command is shorter than "day", so that no text holds more of them. */
    private static final int MOST_COMMANDS = INPUT_SIZE / 3;
    /** More steps than any way has. */
    private static final int FAR = 1000;

    private static final int ALL_THERE = 1;
    private static final int BOTH_ONE = 2;
    private static final int SO_ALREADY = 3;
    private static final int TOO_MANY_PLANTS = 4;
    private static final int THEY_FEUD = 5;
    private static final int TOO_FEW_PLANTS = 6;
    private static final int GREETED_TODAY = 7;
    private static final int CAT_THERE = 8;
    private static final int NO_CAT = 9;
    private static final int COMMAND_REFUSED = 10;
    private static final int COMMAND_FAILED = 11;

    private static final Command[] COMMANDS = Command.values();

    private final House house;
    /** A copy for trials, so that what fails in its midst leaves no trace. */
    private final House draft;
    private final House saved;
    private boolean isSaved;
    private final History history;
    private final Reader reader;
    private final Refusal refusal;
    private final Paths paths;
    private final Order order;
    private final StringBuilder writtenLine;
    private int faultPosition;

    public BalconyCensus() {
        house = new House();
        draft = new House();
        saved = new House();
        isSaved = false;
        history = new History();
        reader = new Reader();
        refusal = new Refusal();
        paths = new Paths();
        order = new Order();
        writtenLine = new StringBuilder();
        faultPosition = NOTHING;
    }

    public int clear() {
        int plantsBefore = house.plantSum();
        house.becomeNew();
        history.forget();
        return plantsBefore;
    }

    public int append(char character) {
        return reader.addCharacter(character);
    }

    public int plant(int balcony, int more) {
        draft.take(house);
        return settle(draft.putPlants(balcony, more, refusal));
    }

    public int bear(int balcony, int tolerance) {
        draft.take(house);
        return settle(draft.changeTolerance(balcony, tolerance, refusal));
    }

    public int hang(int one, int other, int days) {
        draft.take(house);
        return settle(draft.hangLine(one, other, days, refusal));
    }

    public int greet(int one, int other) {
        draft.take(house);
        return settle(draft.letGreet(one, other, refusal));
    }

    public int give(int one, int other, int plants) {
        draft.take(house);
        return settle(draft.givePlants(one, other, plants, refusal));
    }

    public int cat(int balcony) {
        draft.take(house);
        return settle(draft.letCatCome(balcony, refusal));
    }

    public int swap(int one, int other) {
        draft.take(house);
        return settle(draft.swapCats(one, other, refusal));
    }

    public int day() {
        draft.take(house);
        return settle(draft.endDay());
    }

    public int read() {
        boolean isFine = reader.understandText();
        reader.emptyInput();
        if (!isFine) {
            faultPosition = reader.position;
            return BAD;
        }
        draft.take(house);
        return settle(performAll());
    }

    public int fault() {
        return faultPosition;
    }

    public int reason(int depth, boolean isDetail) {
        if (depth == 0) {
            return isDetail ? refusal.detail : refusal.reason;
        }
        if (depth == 1) {
            return isDetail ? refusal.detailBehind : refusal.reasonBehind;
        }
        return BAD;
    }

    public int balconyOf(int balcony, int what) {
        if (!isBalcony(balcony)) {
            return NONE;
        }
        switch (what) {
            case 0:
                return house.plants[balcony];
            case 1:
                return house.tolerances[balcony];
            case 2:
                return house.cats.catOn(balcony);
            case 3:
                return Feuds.ofBalcony(house, balcony);
            case 4:
                return house.greetings.givenBy(balcony);
            case 5:
                return house.greetings.gotBy(balcony);
            case 6:
                return house.lines.countAt(balcony);
            case 7:
                return house.greetings.friendsOf(balcony);
            default:
                return BAD;
        }
    }

    public int feud(int one, int other) {
        if (!areBalconies(one, other)) {
            return NONE;
        }
        return house.isFeud(one, other) ? 1 : 0;
    }

    public int greeted(int one, int other) {
        if (!areBalconies(one, other)) {
            return NONE;
        }
        return house.greetings.countOf(one, other);
    }

    public int catOf(int cat, int what) {
        if (cat < 0 || cat >= house.cats.count) {
            return NONE;
        }
        switch (what) {
            case 0:
                return house.cats.balconies[cat];
            case 1:
                return house.cats.homes[cat];
            case 2:
                return house.cats.swaps[cat];
            case 3:
                paths.walkFrom(house, house.cats.balconies[cat]);
                return paths.walked[house.cats.homes[cat]];
            default:
                return BAD;
        }
    }

    public int lineOf(int line, int what) {
        if (line < 0 || line >= house.lines.count) {
            return NONE;
        }
        switch (what) {
            case 0:
                return house.lines.lower[line];
            case 1:
                return house.lines.higher[line];
            case 2:
                return house.lines.daysLeft[line];
            default:
                return BAD;
        }
    }

    public int feuds() {
        return Feuds.byPairs(house);
    }

    public int feudsAgain() {
        return Feuds.byColumns(house);
    }

    public int excess() {
        return Feuds.excessByTolerance(house);
    }

    public int excessAgain() {
        draft.take(house);
        return Feuds.takeExcess(draft);
    }

    public int census() {
        return house.greetings.sumGiven();
    }

    public int censusAgain() {
        return house.greetings.sumGot();
    }

    public int steps(int one, int other) {
        if (!areBalconies(one, other)) {
            return NONE;
        }
        paths.walkFrom(house, one);
        return paths.walked[other];
    }

    public int stepsAgain(int one, int other) {
        if (!areBalconies(one, other)) {
            return NONE;
        }
        paths.lessenFrom(house, one);
        return paths.lessened[other];
    }

    public int way(int one, int other, int place) {
        if (!areBalconies(one, other)) {
            return NONE;
        }
        return paths.placeOnWay(house, one, other, place);
    }

    public int circles() {
        return house.greetings.countCircles();
    }

    public int wouldGrow(int days) {
        if (days < 0 || days > MOST_DAYS_AHEAD) {
            return BAD;
        }
        draft.take(house);
        for (int day = 0; day < days; day++) {
            draft.endDay();
        }
        return draft.plantSum();
    }

    public int kindest(int place) {
        for (int balcony = 0; balcony < BALCONIES; balcony++) {
            order.setKeys(balcony, house.greetings.givenBy(balcony), house.greetings.gotBy(balcony));
        }
        return order.balconyAt(place);
    }

    public int worst(int place) {
        for (int balcony = 0; balcony < BALCONIES; balcony++) {
            order.setKeys(balcony, Feuds.ofBalcony(house, balcony), house.plants[balcony]);
        }
        return order.balconyAt(place);
    }

    public int write(int floor) {
        if (floor < 0 || floor >= FLOORS) {
            return NONE;
        }
        writtenLine.setLength(0);
        for (int column = 0; column < COLUMNS; column++) {
            if (column > 0) {
                writtenLine.append(' ');
            }
            writeBalcony(floor * COLUMNS + column);
        }
        return writtenLine.length();
    }

    public int writeLines() {
        writtenLine.setLength(0);
        for (int number = 0; number < house.lines.count; number++) {
            if (number > 0) {
                writtenLine.append(' ');
            }
            writtenLine.append(house.lines.lower[number]).append('-').append(house.lines.higher[number]);
            writtenLine.append(':').append(house.lines.daysLeft[number]);
        }
        return writtenLine.length();
    }

    public int written(int index) {
        if (index < 0 || index >= writtenLine.length()) {
            return NONE;
        }
        return writtenLine.charAt(index);
    }

    public int isWell() {
        boolean isSo = feuds() == feudsAgain()
                && excess() == excessAgain()
                && census() == censusAgain()
                && areStepsAlike()
                && !house.cats.isAnyTogether();
        return isSo ? 1 : 0;
    }

    public double meanPlants() {
        return (double) house.plantSum() / (double) BALCONIES;
    }

    public float homeShare() {
        if (house.cats.count == 0) {
            return 0.0f;
        }
        return (float) house.cats.countAtHome() / (float) house.cats.count;
    }

    public int account(int what) {
        switch (what) {
            case 0:
                return house.plantSum();
            case 1:
                return Feuds.byPairs(house);
            case 2:
                return house.lines.count;
            case 3:
                return house.cats.count;
            case 4:
                return house.cats.countAtHome();
            case 5:
                return house.days;
            case 6:
                return house.greetings.sumGiven();
            case 7:
                return house.plantsGiven;
            case 8:
                return house.plantsPut;
            case 9:
                return house.plantsGrown;
            case 10:
                return house.cats.swapSum();
            case 11:
                return house.lines.hungSoFar;
            case 12:
                return reader.length;
            case 13:
                return history.count;
            default:
                return BAD;
        }
    }

    public int undo() {
        if (history.count == 0) {
            return NOTHING;
        }
        history.takeBack(house);
        return history.count;
    }

    public int save() {
        saved.take(house);
        isSaved = true;
        return house.plantSum();
    }

    public int restore() {
        if (!isSaved) {
            return NOTHING;
        }
        house.take(saved);
        history.forget();
        return house.plantSum();
    }

    /** Makes the draft the house if the change on it was successful. */
    private int settle(int answer) {
        if (answer >= 0) {
            history.keep(house);
            house.take(draft);
        }
        return answer;
    }

    private int performAll() {
        for (int number = 0; number < reader.commandCount; number++) {
            int answer = perform(number);
            if (answer == REFUSED) {
                return refusal.cover(COMMAND_REFUSED, number);
            }
            if (answer < 0) {
                return refusal.note(COMMAND_FAILED, number);
            }
        }
        return reader.commandCount;
    }

    private int perform(int number) {
        int one = reader.firsts[number];
        int other = reader.seconds[number];
        int digit = reader.digits[number];
        switch (COMMANDS[reader.kinds[number]]) {
            case PLANT:
                return draft.putPlants(one, digit, refusal);
            case BEAR:
                return draft.changeTolerance(one, digit, refusal);
            case HANG:
                return draft.hangLine(one, other, digit, refusal);
            case GREET:
                return draft.letGreet(one, other, refusal);
            case GIVE:
                return draft.givePlants(one, other, digit, refusal);
            case CAT:
                return draft.letCatCome(one, refusal);
            case SWAP:
                return draft.swapCats(one, other, refusal);
            default:
                return draft.endDay();
        }
    }

    private void writeBalcony(int balcony) {
        writtenLine.append(house.plants[balcony]);
        int catThere = house.cats.catOn(balcony);
        if (catThere >= 0) {
            writtenLine.append((char) ('a' + catThere));
        }
        if (Feuds.ofBalcony(house, balcony) > 0) {
            writtenLine.append('!');
        }
    }

    private boolean areStepsAlike() {
        for (int start = 0; start < BALCONIES; start++) {
            paths.walkFrom(house, start);
            paths.lessenFrom(house, start);
            if (!paths.areAlike()) {
                return false;
            }
        }
        return true;
    }

    private static boolean isBalcony(int balcony) {
        return balcony >= 0 && balcony < BALCONIES;
    }

    private static boolean areBalconies(int one, int other) {
        return isBalcony(one) && isBalcony(other);
    }

    /** Everything that changes can change, and the rules by which they do. */
    private static final class House {
        final int[] plants = new int[BALCONIES];
        final int[] tolerances = new int[BALCONIES];
        final Lines lines = new Lines();
        final Greetings greetings = new Greetings();
        final Cats cats = new Cats();
        /** How many plants each balcony had when the day ended: all grow by that. */
        private final int[] plantsBefore = new int[BALCONIES];
        int days;
        int plantsGiven;
        int plantsPut;
        int plantsGrown;

        House() {
            Arrays.fill(tolerances, FIRST_TOLERANCE);
        }

        void becomeNew() {
            Arrays.fill(plants, 0);
            Arrays.fill(tolerances, FIRST_TOLERANCE);
            lines.becomeNew();
            greetings.becomeNew();
            cats.becomeNew();
            days = 0;
            plantsGiven = 0;
            plantsPut = 0;
            plantsGrown = 0;
        }

        void take(House from) {
            System.arraycopy(from.plants, 0, plants, 0, BALCONIES);
            System.arraycopy(from.tolerances, 0, tolerances, 0, BALCONIES);
            lines.take(from.lines);
            greetings.take(from.greetings);
            cats.take(from.cats);
            days = from.days;
            plantsGiven = from.plantsGiven;
            plantsPut = from.plantsPut;
            plantsGrown = from.plantsGrown;
        }

        int putPlants(int balcony, int more, Refusal why) {
            if (!isBalcony(balcony)) {
                return NONE;
            }
            if (more < 1 || more > MOST_PLANTS) {
                return BAD;
            }
            if (plants[balcony] + more > MOST_PLANTS) {
                return why.note(TOO_MANY_PLANTS, plants[balcony]);
            }
            plants[balcony] += more;
            plantsPut += more;
            return plants[balcony];
        }

        int changeTolerance(int balcony, int tolerance, Refusal why) {
            if (!isBalcony(balcony)) {
                return NONE;
            }
            if (tolerance < 0 || tolerance > MOST_TOLERANCE) {
                return BAD;
            }
            int before = tolerances[balcony];
            if (tolerance == before) {
                return why.note(SO_ALREADY, before);
            }
            tolerances[balcony] = tolerance;
            return before;
        }

        int hangLine(int one, int other, int forDays, Refusal why) {
            if (!areBalconies(one, other)) {
                return NONE;
            }
            if (forDays < 1 || forDays > MOST_LINE_DAYS) {
                return BAD;
            }
            if (one == other) {
                return why.note(BOTH_ONE, one);
            }
            int there = lines.between(one, other);
            if (there >= 0) {
                return why.note(SO_ALREADY, lines.daysLeft[there]);
            }
            if (lines.count >= MOST_LINES) {
                return why.note(ALL_THERE, MOST_LINES);
            }
            return lines.add(one, other, forDays);
        }

        int letGreet(int one, int other, Refusal why) {
            if (!areBalconies(one, other)) {
                return NONE;
            }
            if (one == other) {
                return why.note(BOTH_ONE, one);
            }
            if (isFeud(one, other)) {
                return why.note(THEY_FEUD, Math.max(one, other));
            }
            if (greetings.isToday(one, other)) {
                return why.note(GREETED_TODAY, greetings.countOf(one, other));
            }
            return greetings.add(one, other);
        }

        int givePlants(int one, int other, int gift, Refusal why) {
            if (!areBalconies(one, other)) {
                return NONE;
            }
            if (gift < 1 || gift > MOST_PLANTS) {
                return BAD;
            }
            if (one == other) {
                return why.note(BOTH_ONE, one);
            }
            if (isFeud(one, other)) {
                return why.note(THEY_FEUD, Math.max(one, other));
            }
            if (plants[one] < gift) {
                return why.note(TOO_FEW_PLANTS, plants[one]);
            }
            if (plants[other] + gift > MOST_PLANTS) {
                return why.note(TOO_MANY_PLANTS, plants[other]);
            }
            plants[one] -= gift;
            plants[other] += gift;
            plantsGiven += gift;
            return plants[other];
        }

        int letCatCome(int balcony, Refusal why) {
            if (!isBalcony(balcony)) {
                return NONE;
            }
            int there = cats.catOn(balcony);
            if (there >= 0) {
                return why.note(CAT_THERE, there);
            }
            if (cats.count >= MOST_CATS) {
                return why.note(ALL_THERE, MOST_CATS);
            }
            return cats.add(balcony);
        }

        int swapCats(int one, int other, Refusal why) {
            if (!areBalconies(one, other)) {
                return NONE;
            }
            if (one == other) {
                return why.note(BOTH_ONE, one);
            }
            if (isFeud(one, other)) {
                return why.note(THEY_FEUD, Math.max(one, other));
            }
            int catOfOne = cats.catOn(one);
            int catOfOther = cats.catOn(other);
            if (catOfOne < 0 && catOfOther < 0) {
                return why.note(NO_CAT, cats.count);
            }
            return cats.move(catOfOne, other) + cats.move(catOfOther, one);
        }

        int endDay() {
            System.arraycopy(plants, 0, plantsBefore, 0, BALCONIES);
            int growing = 0;
            for (int balcony = 0; balcony < BALCONIES; balcony++) {
                if (growsBy(plantsBefore, balcony)) {
                    plants[balcony]++;
                    growing++;
                }
            }
            plantsGrown += growing;
            lines.passDay();
            greetings.passDay();
            days++;
            return growing;
        }

        private static boolean growsBy(int[] before, int balcony) {
            if (before[balcony] < 1 || before[balcony] >= MOST_PLANTS) {
                return false;
            }
            for (int upper = balcony + COLUMNS; upper < BALCONIES; upper += COLUMNS) {
                if (before[upper] > before[balcony]) {
                    return false;
                }
            }
            return true;
        }

        /** The one that is above is the higher of two numbers in a column. */
        boolean isFeud(int one, int other) {
            if (one == other || one % COLUMNS != other % COLUMNS) {
                return false;
            }
            int upper = Math.max(one, other);
            int lower = Math.min(one, other);
            return plants[upper] > tolerances[lower] && lines.between(lower, upper) < 0;
        }

        int plantSum() {
            int sum = 0;
            for (int balcony = 0; balcony < BALCONIES; balcony++) {
                sum += plants[balcony];
            }
            return sum;
        }

        /** Returns the balcony to which a step leads, NONE if there is none; lower ones come by lower directions. */
        int stepFrom(int balcony, int direction) {
            int to = besideOf(balcony, direction);
            return to < 0 || isFeud(balcony, to) ? NONE : to;
        }

        private static int besideOf(int balcony, int direction) {
            switch (direction) {
                case 0:
                    return balcony >= COLUMNS ? balcony - COLUMNS : NONE;
                case 1:
                    return balcony % COLUMNS > 0 ? balcony - 1 : NONE;
                case 2:
                    return balcony % COLUMNS < COLUMNS - 1 ? balcony + 1 : NONE;
                default:
                    return balcony < BALCONIES - COLUMNS ? balcony + COLUMNS : NONE;
            }
        }
    }

    /** The laundry lines that hang, in the order of their numbers. */
    private static final class Lines {
        final int[] lower = new int[MOST_LINES];
        final int[] higher = new int[MOST_LINES];
        final int[] daysLeft = new int[MOST_LINES];
        int count;
        int hungSoFar;

        void becomeNew() {
            count = 0;
            hungSoFar = 0;
        }

        void take(Lines from) {
            System.arraycopy(from.lower, 0, lower, 0, MOST_LINES);
            System.arraycopy(from.higher, 0, higher, 0, MOST_LINES);
            System.arraycopy(from.daysLeft, 0, daysLeft, 0, MOST_LINES);
            count = from.count;
            hungSoFar = from.hungSoFar;
        }

        int between(int one, int other) {
            int low = one < other ? one : other;
            int high = one < other ? other : one;
            for (int number = 0; number < count; number++) {
                if (lower[number] == low && higher[number] == high) {
                    return number;
                }
            }
            return NONE;
        }

        int countAt(int balcony) {
            int there = 0;
            for (int number = 0; number < count; number++) {
                if (lower[number] == balcony || higher[number] == balcony) {
                    there++;
                }
            }
            return there;
        }

        int add(int one, int other, int forDays) {
            int number = count;
            lower[number] = Math.min(one, other);
            higher[number] = Math.max(one, other);
            daysLeft[number] = forDays;
            count++;
            hungSoFar++;
            return number;
        }

        void passDay() {
            int kept = 0;
            for (int number = 0; number < count; number++) {
                if (daysLeft[number] > 1) {
                    lower[kept] = lower[number];
                    higher[kept] = higher[number];
                    daysLeft[kept] = daysLeft[number] - 1;
                    kept++;
                }
            }
            count = kept;
        }
    }

    /** How often each balcony greeted each other one, so far and today. */
    private static final class Greetings {
        private final int[] counts = new int[BALCONIES * BALCONIES];
        /** For each balcony those that it greeted today, bit k for the balcony k. */
        private final int[] today = new int[BALCONIES];

        void becomeNew() {
            Arrays.fill(counts, 0);
            Arrays.fill(today, 0);
        }

        void take(Greetings from) {
            System.arraycopy(from.counts, 0, counts, 0, BALCONIES * BALCONIES);
            System.arraycopy(from.today, 0, today, 0, BALCONIES);
        }

        int countOf(int one, int other) {
            return counts[one * BALCONIES + other];
        }

        boolean isToday(int one, int other) {
            return (today[one] >> other & 1) == 1;
        }

        int add(int one, int other) {
            counts[one * BALCONIES + other]++;
            today[one] |= 1 << other;
            return countOf(one, other);
        }

        void passDay() {
            Arrays.fill(today, 0);
        }

        int givenBy(int balcony) {
            int sum = 0;
            for (int other = 0; other < BALCONIES; other++) {
                sum += countOf(balcony, other);
            }
            return sum;
        }

        int gotBy(int balcony) {
            int sum = 0;
            for (int other = 0; other < BALCONIES; other++) {
                sum += countOf(other, balcony);
            }
            return sum;
        }

        int sumGiven() {
            int sum = 0;
            for (int balcony = 0; balcony < BALCONIES; balcony++) {
                sum += givenBy(balcony);
            }
            return sum;
        }

        int sumGot() {
            int sum = 0;
            for (int balcony = 0; balcony < BALCONIES; balcony++) {
                sum += gotBy(balcony);
            }
            return sum;
        }

        int friendsOf(int balcony) {
            int friends = 0;
            for (int other = 0; other < BALCONIES; other++) {
                if (countOf(balcony, other) > 0 && countOf(other, balcony) > 0) {
                    friends |= 1 << other;
                }
            }
            return friends;
        }

        int countCircles() {
            int circles = 0;
            int seen = 0;
            for (int balcony = 0; balcony < BALCONIES; balcony++) {
                if ((seen >> balcony & 1) == 0) {
                    circles++;
                    seen |= circleOf(balcony);
                }
            }
            return circles;
        }

        private int circleOf(int balcony) {
            int circle = 1 << balcony;
            for (int round = 0; round < BALCONIES; round++) {
                int wider = withFriends(circle);
                if (wider == circle) {
                    return circle;
                }
                circle = wider;
            }
            return circle;
        }

        private int withFriends(int set) {
            int wider = set;
            for (int balcony = 0; balcony < BALCONIES; balcony++) {
                if ((set >> balcony & 1) == 1) {
                    wider |= friendsOf(balcony);
                }
            }
            return wider;
        }
    }

    /** The cats in the order in which they came. */
    private static final class Cats {
        final int[] balconies = new int[MOST_CATS];
        final int[] homes = new int[MOST_CATS];
        final int[] swaps = new int[MOST_CATS];
        int count;

        void becomeNew() {
            count = 0;
        }

        void take(Cats from) {
            System.arraycopy(from.balconies, 0, balconies, 0, MOST_CATS);
            System.arraycopy(from.homes, 0, homes, 0, MOST_CATS);
            System.arraycopy(from.swaps, 0, swaps, 0, MOST_CATS);
            count = from.count;
        }

        int catOn(int balcony) {
            for (int number = 0; number < count; number++) {
                if (balconies[number] == balcony) {
                    return number;
                }
            }
            return NOTHING;
        }

        int add(int balcony) {
            int number = count;
            balconies[number] = balcony;
            homes[number] = balcony;
            swaps[number] = 0;
            count++;
            return number;
        }

        /** Returns how many cats go: none if there is no such cat. */
        int move(int number, int balcony) {
            if (number < 0 || number >= count) {
                return 0;
            }
            balconies[number] = balcony;
            swaps[number]++;
            return 1;
        }

        int countAtHome() {
            int atHome = 0;
            for (int number = 0; number < count; number++) {
                if (balconies[number] == homes[number]) {
                    atHome++;
                }
            }
            return atHome;
        }

        int swapSum() {
            int sum = 0;
            for (int number = 0; number < count; number++) {
                sum += swaps[number];
            }
            return sum;
        }

        boolean isAnyTogether() {
            for (int one = 0; one < count; one++) {
                for (int other = one + 1; other < count; other++) {
                    if (balconies[one] == balconies[other]) {
                        return true;
                    }
                }
            }
            return false;
        }
    }

    /** Feuds and plants too many, each counted in two ways. */
    private static final class Feuds {
        static int ofBalcony(House house, int balcony) {
            int count = 0;
            for (int other = 0; other < BALCONIES; other++) {
                if (house.isFeud(balcony, other)) {
                    count++;
                }
            }
            return count;
        }

        static int byPairs(House house) {
            int count = 0;
            for (int one = 0; one < BALCONIES; one++) {
                for (int other = one + 1; other < BALCONIES; other++) {
                    if (house.isFeud(one, other)) {
                        count++;
                    }
                }
            }
            return count;
        }

        static int byColumns(House house) {
            int count = 0;
            for (int column = 0; column < COLUMNS; column++) {
                for (int lower = column; lower < BALCONIES; lower += COLUMNS) {
                    count += countTooRichAbove(house, lower);
                }
            }
            return count - countTruces(house.lines, house);
        }

        private static int countTooRichAbove(House house, int lower) {
            int count = 0;
            for (int upper = lower + COLUMNS; upper < BALCONIES; upper += COLUMNS) {
                if (house.plants[upper] > house.tolerances[lower]) {
                    count++;
                }
            }
            return count;
        }

        private static int countTruces(Lines lines, House house) {
            int count = 0;
            for (int number = 0; number < lines.count; number++) {
                int lower = lines.lower[number];
                int upper = lines.higher[number];
                if (lower % COLUMNS == upper % COLUMNS && house.plants[upper] > house.tolerances[lower]) {
                    count++;
                }
            }
            return count;
        }

        static int excessByTolerance(House house) {
            int excess = 0;
            for (int upper = 0; upper < BALCONIES; upper++) {
                excess += Math.max(0, house.plants[upper] - leastToleranceBelow(house, upper));
            }
            return excess;
        }

        private static int leastToleranceBelow(House house, int upper) {
            int least = MOST_TOLERANCE;
            for (int lower = upper - COLUMNS; lower >= 0; lower -= COLUMNS) {
                if (house.lines.between(lower, upper) < 0) {
                    least = Math.min(least, house.tolerances[lower]);
                }
            }
            return least;
        }

        /** Takes plants until nobody feuds, and returns how many: for a copy. */
        static int takeExcess(House copy) {
            int taken = 0;
            for (int round = 0; round < BALCONIES * MOST_PLANTS; round++) {
                int upper = firstTooRich(copy);
                if (upper < 0) {
                    return taken;
                }
                copy.plants[upper]--;
                taken++;
            }
            return taken;
        }

        private static int firstTooRich(House house) {
            for (int lower = 0; lower < BALCONIES; lower++) {
                for (int upper = lower + COLUMNS; upper < BALCONIES; upper += COLUMNS) {
                    if (house.isFeud(lower, upper)) {
                        return upper;
                    }
                }
            }
            return NONE;
        }
    }

    /** The fewest steps of a cat from one balcony to all, in two ways; NOTHING where there is no way. */
    private static final class Paths {
        final int[] walked = new int[BALCONIES];
        final int[] lessened = new int[BALCONIES];

        void walkFrom(House house, int start) {
            Arrays.fill(walked, NOTHING);
            walked[start] = 0;
            for (int step = 0; step < BALCONIES; step++) {
                for (int balcony = 0; balcony < BALCONIES; balcony++) {
                    if (walked[balcony] == step) {
                        walkOn(house, balcony);
                    }
                }
            }
        }

        private void walkOn(House house, int balcony) {
            for (int direction = 0; direction < DIRECTIONS; direction++) {
                int to = house.stepFrom(balcony, direction);
                if (to >= 0 && walked[to] == NOTHING) {
                    walked[to] = walked[balcony] + 1;
                }
            }
        }

        void lessenFrom(House house, int start) {
            Arrays.fill(lessened, FAR);
            lessened[start] = 0;
            boolean isLess = true;
            for (int round = 0; round < BALCONIES && isLess; round++) {
                isLess = false;
                for (int balcony = 0; balcony < BALCONIES; balcony++) {
                    if (lessenBeside(house, balcony)) {
                        isLess = true;
                    }
                }
            }
            for (int balcony = 0; balcony < BALCONIES; balcony++) {
                if (lessened[balcony] >= FAR) {
                    lessened[balcony] = NOTHING;
                }
            }
        }

        private boolean lessenBeside(House house, int balcony) {
            boolean isLess = false;
            for (int direction = 0; direction < DIRECTIONS; direction++) {
                int to = house.stepFrom(balcony, direction);
                if (to >= 0 && lessened[balcony] + 1 < lessened[to]) {
                    lessened[to] = lessened[balcony] + 1;
                    isLess = true;
                }
            }
            return isLess;
        }

        boolean areAlike() {
            for (int balcony = 0; balcony < BALCONIES; balcony++) {
                if (walked[balcony] != lessened[balcony]) {
                    return false;
                }
            }
            return true;
        }

        /** Walks from the end, so that each place can look how far it still is. */
        int placeOnWay(House house, int one, int other, int place) {
            walkFrom(house, other);
            if (place < 0 || place > walked[one]) {
                return NOTHING;
            }
            int balcony = one;
            for (int gone = 0; gone < place && gone < BALCONIES; gone++) {
                balcony = lowestNearer(house, balcony);
            }
            return balcony;
        }

        private int lowestNearer(House house, int balcony) {
            for (int direction = 0; direction < DIRECTIONS; direction++) {
                int to = house.stepFrom(balcony, direction);
                if (to >= 0 && walked[to] == walked[balcony] - 1) {
                    return to;
                }
            }
            return balcony;
        }
    }

    /** An order of the balconies: the greater key first, of several the greater next key, then the lowest one. */
    private static final class Order {
        private final int[] keys = new int[BALCONIES];
        private final int[] nextKeys = new int[BALCONIES];

        void setKeys(int balcony, int key, int nextKey) {
            keys[balcony] = key;
            nextKeys[balcony] = nextKey;
        }

        int balconyAt(int place) {
            for (int balcony = 0; balcony < BALCONIES; balcony++) {
                if (countAhead(balcony) == place) {
                    return balcony;
                }
            }
            return NONE;
        }

        private int countAhead(int balcony) {
            int count = 0;
            for (int other = 0; other < BALCONIES; other++) {
                if (isAhead(other, balcony)) {
                    count++;
                }
            }
            return count;
        }

        private boolean isAhead(int one, int other) {
            if (keys[one] != keys[other]) {
                return keys[one] > keys[other];
            }
            if (nextKeys[one] != nextKeys[other]) {
                return nextKeys[one] > nextKeys[other];
            }
            return one < other;
        }
    }

    /** Why something was refused last, and what stands behind that. */
    private static final class Refusal {
        int reason = NOTHING;
        int detail = NOTHING;
        int reasonBehind = NOTHING;
        int detailBehind = NOTHING;

        int note(int newReason, int newDetail) {
            reason = newReason;
            detail = newDetail;
            reasonBehind = NOTHING;
            detailBehind = NOTHING;
            return REFUSED;
        }

        /** Puts a reason before the one that was noted last. */
        int cover(int newReason, int newDetail) {
            reasonBehind = reason;
            detailBehind = detail;
            reason = newReason;
            detail = newDetail;
            return REFUSED;
        }
    }

    /** The houses ahead of the latest changes, in a ring. */
    private static final class History {
        private final House[] houses = new House[MOST_CHANGES];
        private int next;
        int count;

        History() {
            for (int place = 0; place < MOST_CHANGES; place++) {
                houses[place] = new House();
            }
        }

        void keep(House house) {
            houses[next].take(house);
            next = (next + 1) % MOST_CHANGES;
            count = Math.min(count + 1, MOST_CHANGES);
        }

        void takeBack(House house) {
            next = (next + MOST_CHANGES - 1) % MOST_CHANGES;
            count--;
            house.take(houses[next]);
        }

        void forget() {
            count = 0;
        }
    }

    /** The commands of a text: a word, then numbers, then a digit or none, with blanks between. */
    private enum Command {
        PLANT("plant ", 1, true),
        BEAR("bear ", 1, true),
        HANG("hang ", 2, true),
        GREET("greet ", 2, false),
        GIVE("give ", 2, true),
        CAT("cat ", 1, false),
        SWAP("swap ", 2, false),
        DAY("day", 0, false);

        final String word;
        final int numbers;
        final boolean isDigitLast;

        Command(String word, int numbers, boolean isDigitLast) {
            this.word = word;
            this.numbers = numbers;
            this.isDigitLast = isDigitLast;
        }
    }

    /** The input, and the commands that were understood in it. */
    private static final class Reader {
        private final char[] text = new char[INPUT_SIZE];
        int length;
        /** Where the reading stands: behind a fault it stays there. */
        int position;
        final int[] kinds = new int[MOST_COMMANDS];
        final int[] firsts = new int[MOST_COMMANDS];
        final int[] seconds = new int[MOST_COMMANDS];
        final int[] digits = new int[MOST_COMMANDS];
        int commandCount;

        int addCharacter(char character) {
            if (character < FIRST_CODE || character > LAST_CODE || length >= INPUT_SIZE) {
                return BAD;
            }
            text[length] = character;
            length++;
            return length;
        }

        void emptyInput() {
            length = 0;
        }

        /** Returns whether the text has no fault; if it has one, the position is the fault's. */
        boolean understandText() {
            position = 0;
            commandCount = 0;
            for (int number = 0; number < MOST_COMMANDS; number++) {
                if (!readCommand(number)) {
                    return false;
                }
                commandCount++;
                if (position == length) {
                    return true;
                }
                if (!passOver(';')) {
                    return false;
                }
            }
            return false;
        }

        private boolean readCommand(int number) {
            int kind = readWord();
            if (kind < 0) {
                return false;
            }
            kinds[number] = kind;
            Command command = COMMANDS[kind];
            if (command.numbers > 0) {
                firsts[number] = readNumber();
                if (firsts[number] < 0) {
                    return false;
                }
            }
            if (command.numbers > 1) {
                seconds[number] = passOver(' ') ? readNumber() : NONE;
                if (seconds[number] < 0) {
                    return false;
                }
            }
            if (command.isDigitLast) {
                digits[number] = passOver(' ') ? readDigit() : NONE;
                return digits[number] >= 0;
            }
            return true;
        }

        /** Goes as far as any word goes: no word is the beginning of another one. */
        private int readWord() {
            int longest = 0;
            int found = NONE;
            for (int kind = 0; kind < COMMANDS.length; kind++) {
                String word = COMMANDS[kind].word;
                int alike = countAlike(word);
                longest = Math.max(longest, alike);
                if (alike == word.length()) {
                    found = kind;
                }
            }
            position += longest;
            return found;
        }

        private int countAlike(String word) {
            int alike = 0;
            for (int index = 0; index < word.length(); index++) {
                if (position + index >= length || text[position + index] != word.charAt(index)) {
                    return alike;
                }
                alike++;
            }
            return alike;
        }

        private int readNumber() {
            int number = readDigit();
            if (number < 0) {
                return NONE;
            }
            int nextDigit = readDigit();
            return nextDigit < 0 ? number : number * 10 + nextDigit;
        }

        private int readDigit() {
            if (position >= length || text[position] < '0' || text[position] > '9') {
                return NONE;
            }
            int digit = text[position] - '0';
            position++;
            return digit;
        }

        private boolean passOver(char sign) {
            if (position >= length || text[position] != sign) {
                return false;
            }
            position++;
            return true;
        }
    }
}

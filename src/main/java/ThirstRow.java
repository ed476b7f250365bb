/**
 * Wells in a row, each giving as much as the house on its left says it wants.
 * The words in the comments are those of the document (WANT, SAYS, GIVEN, LACKS, ..).
 */
public final class ThirstRow {
    public static final int UNKNOWN = -1, OUTSIDE = -2, STATE = -3, FULL = -4, NONE = -9;

    private static final int MOST_LETTERS = 40;
    private static final int MOST_HOUSES = 6;
    private static final int MOST_HEATS = 5;
    private static final int MOST_ACTS = 14;
    private static final int MOST_SEEN = 6;
    private static final int MOST_SLOTS = 2;
    private static final int MOST_ORDERS = 720;
    private static final int GREATEST_LETTER = 255;
    private static final int GREATEST_FIGURE = 9;
    private static final int GREATEST_HEAT = 3;
    private static final int GREATEST_SAID = 30;
    private static final int GREATEST_DAYS_AHEAD = 20;
    private static final int GREATEST_DOINGS = 4;
    private static final int GREATEST_LACK_ASKED = 60;
    private static final int GREATEST_WEEKS = 30;
    private static final int CASK_DAYS = 10;
    private static final int TENTHS = 10;
    private static final int BREWER = 1;
    private static final int TWINS = 2;
    private static final int LIAR = 3;
    private static final int BREWERS_MORE = 3;
    private static final int LIARS_MORE = 2;
    private static final int SALTS_MORE = 3;
    private static final int GUESTS_MORE = 2;
    private static final int WORTH_OF_FISH = 2;
    private static final int[] FACTORIALS = {1, 1, 2, 6, 24, 120, 720};

    private final Text text;
    private final Reader reader;
    private final Told told;
    private final Standing now;
    private final Acts acts;
    private final Slots slots;
    private final Seen seen;
    private final Today look;
    private final Outlook outlook;
    private final Chances chances;
    private long theSeed;

    public ThirstRow() {
        text = new Text();
        reader = new Reader();
        told = new Told();
        now = new Standing();
        acts = new Acts();
        slots = new Slots();
        seen = new Seen();
        look = new Today();
        outlook = new Outlook();
        chances = new Chances();
        theSeed = 0L;
    }

    // ---- the row

    public int write(int letter) {
        if (!within(letter, 0, GREATEST_LETTER)) {
            return OUTSIDE;
        }
        return text.append(letter);
    }

    public int wipe() {
        return text.clear();
    }

    public int fault() {
        return reader.read(text);
    }

    public int row() {
        if (reader.read(text) != NONE) {
            return STATE;
        }
        told.copyFrom(reader.draft);
        now.clear();
        acts.clear();
        slots.clear();
        return 10 * told.houses + told.heats;
    }

    public int house(int house, int what) {
        if (!isHouse(house)) {
            return UNKNOWN;
        }
        switch (what) {
            case 0: return told.wants[house];
            case 1: return told.kinds[house];
            case 2: return told.barrels[house];
            case 3: return now.stored[house];
            case 4: return now.placeOf(house);
            case 5: return now.lacked[house];
            case 6: return now.isSalted(house) ? 1 : 0;
            case 7: return now.isAway(house) ? 1 : 0;
            default: return OUTSIDE;
        }
    }

    public int today(int house, int what) {
        if (!isHouse(house)) {
            return UNKNOWN;
        }
        look.lookAt(told, now);
        switch (what) {
            case 0: return look.want[house];
            case 1: return look.said[house];
            case 2: return look.given[house];
            case 3: return look.drawn[house];
            case 4: return look.lacking[house];
            case 5: return look.spilt[house];
            default: return OUTSIDE;
        }
    }

    public int at(int place) {
        return within(place, 0, told.houses - 1) ? now.order[place] : NONE;
    }

    // ---- acts

    public int day() {
        acts.remember(now);
        look.pass(told, now);
        return sum(look.lacking, told.houses);
    }

    public int swap(int one, int other) {
        if (!isHouse(one) || !isHouse(other)) {
            return UNKNOWN;
        }
        if (one == other) {
            return OUTSIDE;
        }
        acts.remember(now);
        now.exchange(one, other);
        return now.placeOf(one);
    }

    public int salt(int house) {
        if (!isHouse(house)) {
            return UNKNOWN;
        }
        if (now.isSalted(house)) {
            return STATE;
        }
        acts.remember(now);
        now.giveSalt(house);
        look.lookAt(told, now);
        return look.want[house];
    }

    public int away(int house) {
        if (!isHouse(house)) {
            return UNKNOWN;
        }
        acts.remember(now);
        now.turnAway(house);
        return now.isAway(house) ? 1 : 0;
    }

    public int undo() {
        return acts.takeBack(now) ? acts.count : STATE;
    }

    // ---- days to come, orders

    public int ahead(int n, int what) {
        if (!within(n, 0, GREATEST_DAYS_AHEAD) || !within(what, 0, 1)) {
            return OUTSIDE;
        }
        return outlook.inDays(told, now, n, what == 1);
    }

    public int order(boolean order) {
        outlook.seekOrder(told, now, false);
        return order ? outlook.bestOrder : outlook.bestLack;
    }

    public int worst(boolean order) {
        outlook.seekOrder(told, now, true);
        return order ? outlook.bestOrder : outlook.bestLack;
    }

    public int salts(int house) {
        return isHouse(house) ? outlook.fewestSalts(told, now, house) : UNKNOWN;
    }

    public int cask(int house) {
        return isHouse(house) ? outlook.leastBarrel(told, now, house) : UNKNOWN;
    }

    public int judge(int n, long row) {
        if (!within(n, 1, GREATEST_DOINGS) || row < 0L || withoutDoings(row, n) != 0L) {
            return OUTSIDE;
        }
        return outlook.firstNotSo(told, now, n, row);
    }

    // ---- seen

    public int see(int house, int heat, int said) {
        if (!isHouse(house)) {
            return UNKNOWN;
        }
        if (!within(heat, 0, GREATEST_HEAT) || !within(said, 0, GREATEST_SAID)) {
            return OUTSIDE;
        }
        return seen.add(house, heat, said);
    }

    public int unsee() {
        return seen.clear();
    }

    public int wants(int house) {
        return isHouse(house) ? seen.possibleWants(house, told.kinds[house]) : UNKNOWN;
    }

    // ---- shares, rests, chances

    public int share(int house, boolean upper) {
        if (!isHouse(house)) {
            return UNKNOWN;
        }
        int above = chances.addedInAllOrders(told, now, house);
        return inLeastTerms(above, ordersOf(told.houses), upper);
    }

    public int rests(int one, int other, int what) {
        if (!isHouse(one) || !isHouse(other)) {
            return UNKNOWN;
        }
        if (one == other || !within(what, 0, 1)) {
            return OUTSIDE;
        }
        chances.seekRests(told, now, one, other);
        return what == 0 ? chances.restCount : chances.firstRest;
    }

    public int guests(int m, int x, boolean upper) {
        if (!within(m, 0, GREATEST_LACK_ASKED) || !within(x, 0, TENTHS)) {
            return OUTSIDE;
        }
        int above = chances.waysToLack(told, now, m, x);
        return inLeastTerms(above, power(TENTHS, now.countPresent(told.houses)), upper);
    }

    public long seed(long v) {
        long before = theSeed;
        theSeed = v;
        return before;
    }

    public int weeks(int m) {
        if (!within(m, 1, GREATEST_WEEKS)) {
            return OUTSIDE;
        }
        int lacked = chances.lackedByChance(told, now, m, theSeed);
        theSeed = chances.seedThen;
        return lacked;
    }

    // ---- slots

    public int keep(int slot) {
        if (!within(slot, 0, MOST_SLOTS - 1)) {
            return UNKNOWN;
        }
        slots.put(slot, now);
        return now.dayNumber;
    }

    public int again(int slot) {
        if (!within(slot, 0, MOST_SLOTS - 1)) {
            return UNKNOWN;
        }
        if (!slots.fetch(slot, now)) {
            return STATE;
        }
        acts.clear();
        return now.dayNumber;
    }

    public int count(int what) {
        switch (what) {
            case 0: return text.length;
            case 1: return told.houses;
            case 2: return told.heats;
            case 3: return now.dayNumber;
            case 4: return told.heatOn(now.dayNumber);
            case 5: return lackingToday();
            case 6: return sum(now.lacked, told.houses);
            case 7: return now.saltedBits;
            case 8: return now.awayBits;
            case 9: return acts.count;
            case 10: return seen.count;
            default: return OUTSIDE;
        }
    }

    private boolean isHouse(int house) {
        return within(house, 0, told.houses - 1);
    }

    private int lackingToday() {
        look.lookAt(told, now);
        return sum(look.lacking, told.houses);
    }

    private static boolean within(int number, int least, int most) {
        return number >= least && number <= most;
    }

    private static int sum(int[] byHouse, int houses) {
        int sum = 0;
        for (int house = 0; house < houses && house < byHouse.length; house++) {
            sum += byHouse[house];
        }
        return sum;
    }

    private static int greatest(int[] byHouse, int houses) {
        int greatest = 0;
        for (int house = 0; house < houses && house < byHouse.length; house++) {
            greatest = Math.max(greatest, byHouse[house]);
        }
        return greatest;
    }

    private static int ordersOf(int houses) {
        return within(houses, 0, FACTORIALS.length - 1) ? FACTORIALS[houses] : 1;
    }

    private static int power(int base, int exponent) {
        int power = 1;
        for (int i = 0; i < exponent; i++) {
            power *= base;
        }
        return power;
    }

    /** Without HEAT, salt and guests, so that what is SEEN can be held against it too. */
    private static int wantByKind(int w, int kind) {
        switch (kind) {
            case BREWER: return w + BREWERS_MORE;
            case TWINS: return 2 * w;
            default: return w;
        }
    }

    private static int lieOf(int kind) {
        return kind == LIAR ? LIARS_MORE : 0;
    }

    /** The figures that stand left of the last n doings. */
    private static long withoutDoings(long row, int n) {
        long left = row;
        for (int i = 0; i < n; i++) {
            left /= 1000L;
        }
        return left;
    }

    private static int inLeastTerms(int above, int below, boolean upper) {
        int common = Math.max(1, commonDivisor(Math.abs(above), below));
        return (upper ? above : below) / common;
    }

    private static int commonDivisor(int one, int other) {
        int large = one;
        int small = other;
        // Two ints need fewer than 50 steps.
        for (int i = 0; i < 64 && small != 0; i++) {
            int left = large % small;
            large = small;
            small = left;
        }
        return large;
    }

    /** THE TEXT. */
    private static final class Text {
        final int[] letters;
        int length;

        Text() {
            letters = new int[MOST_LETTERS];
            length = 0;
        }

        int append(int letter) {
            if (length >= MOST_LETTERS) {
                return FULL;
            }
            letters[length] = letter;
            length++;
            return length;
        }

        int clear() {
            int before = length;
            length = 0;
            return before;
        }
    }

    /** THE ROW as it was told; nothing in it changes until another one is made. */
    private static final class Told {
        int trough;
        boolean ring;
        int houses;
        int heats;
        final int[] wants;
        final int[] kinds;
        final int[] barrels;
        final int[] heatsInTurn;

        Told() {
            wants = new int[MOST_HOUSES];
            kinds = new int[MOST_HOUSES];
            barrels = new int[MOST_HOUSES];
            heatsInTurn = new int[MOST_HEATS];
        }

        void clear() {
            trough = 0;
            ring = false;
            houses = 0;
            heats = 0;
        }

        void copyFrom(Told other) {
            trough = other.trough;
            ring = other.ring;
            houses = other.houses;
            heats = other.heats;
            System.arraycopy(other.wants, 0, wants, 0, MOST_HOUSES);
            System.arraycopy(other.kinds, 0, kinds, 0, MOST_HOUSES);
            System.arraycopy(other.barrels, 0, barrels, 0, MOST_HOUSES);
            System.arraycopy(other.heatsInTurn, 0, heatsInTurn, 0, MOST_HEATS);
        }

        int heatOn(int day) {
            return heats <= 0 ? 0 : heatsInTurn[Math.floorMod(day, heats)];
        }
    }

    /** Reads THE TEXT letter by letter, so that the FAULT is the first letter that no stage takes. */
    private static final class Reader {
        private static final int AT_START = 0;
        private static final int AT_TROUGH = 1;
        private static final int AT_RING = 2;
        private static final int AT_PART = 3;
        private static final int AT_WANT = 4;
        private static final int AT_KIND = 5;
        private static final int AT_BARREL = 6;
        private static final int AT_HEAT = 7;

        final Told draft;

        Reader() {
            draft = new Told();
        }

        /** The FAULT; the draft is a ROW if there is none. */
        int read(Text text) {
            draft.clear();
            int stage = AT_START;
            for (int place = 0; place < text.length; place++) {
                stage = take(stage, text.letters[place]);
                if (stage == NONE) {
                    return place;
                }
            }
            return stage == AT_PART ? NONE : text.length;
        }

        /** The stage behind a letter; NONE: no ROW goes on so. */
        private int take(int stage, int letter) {
            switch (stage) {
                case AT_START: return letter == 'T' ? AT_TROUGH : NONE;
                case AT_PART: return takePart(letter);
                case AT_TROUGH:
                case AT_WANT:
                case AT_BARREL: return takeFigure(stage, letter - '0', GREATEST_FIGURE);
                case AT_RING: return takeFigure(stage, letter - '0', 1);
                case AT_KIND: return takeFigure(stage, letter - '0', LIAR);
                case AT_HEAT: return takeFigure(stage, letter - '0', GREATEST_HEAT);
                default: return NONE;
            }
        }

        private int takePart(int letter) {
            if (letter == 'H' && draft.houses < MOST_HOUSES) {
                draft.houses++;
                return AT_WANT;
            }
            if (letter == 'D' && draft.heats < MOST_HEATS) {
                draft.heats++;
                return AT_HEAT;
            }
            return NONE;
        }

        private int takeFigure(int stage, int figure, int most) {
            if (!within(figure, 0, most)) {
                return NONE;
            }
            switch (stage) {
                case AT_TROUGH:
                    draft.trough = figure;
                    return AT_RING;
                case AT_RING:
                    draft.ring = figure == 1;
                    return AT_PART;
                case AT_HEAT:
                    return putLast(draft.heatsInTurn, draft.heats, figure, AT_PART);
                case AT_WANT:
                    return putLast(draft.wants, draft.houses, figure, AT_KIND);
                case AT_KIND:
                    return putLast(draft.kinds, draft.houses, figure, AT_BARREL);
                default:
                    return putLast(draft.barrels, draft.houses, figure, AT_PART);
            }
        }

        private static int putLast(int[] row, int count, int figure, int next) {
            if (!within(count, 1, row.length)) {
                return NONE;
            }
            row[count - 1] = figure;
            return next;
        }
    }

    /** What days and acts change: all that undo, slots and trials have to bring back. */
    private static final class Standing {
        /** The HOUSE at each PLACE; behind the last one places hold their own number, so it is always an order of all six. */
        final int[] order;
        final int[] stored;
        final int[] lacked;
        int saltedBits;
        int awayBits;
        int dayNumber;

        Standing() {
            order = new int[MOST_HOUSES];
            stored = new int[MOST_HOUSES];
            lacked = new int[MOST_HOUSES];
            clear();
        }

        void clear() {
            standAsTold();
            for (int house = 0; house < MOST_HOUSES; house++) {
                stored[house] = 0;
                lacked[house] = 0;
            }
            saltedBits = 0;
            awayBits = 0;
            dayNumber = 0;
        }

        void standAsTold() {
            for (int place = 0; place < MOST_HOUSES; place++) {
                order[place] = place;
            }
        }

        void copyFrom(Standing other) {
            System.arraycopy(other.order, 0, order, 0, MOST_HOUSES);
            System.arraycopy(other.stored, 0, stored, 0, MOST_HOUSES);
            System.arraycopy(other.lacked, 0, lacked, 0, MOST_HOUSES);
            saltedBits = other.saltedBits;
            awayBits = other.awayBits;
            dayNumber = other.dayNumber;
        }

        int placeOf(int house) {
            for (int place = 0; place < MOST_HOUSES; place++) {
                if (order[place] == house) {
                    return place;
                }
            }
            return NONE;
        }

        void exchange(int one, int other) {
            for (int place = 0; place < MOST_HOUSES; place++) {
                if (order[place] == one) {
                    order[place] = other;
                } else if (order[place] == other) {
                    order[place] = one;
                }
            }
        }

        boolean isSalted(int house) {
            return (saltedBits >> house & 1) == 1;
        }

        void giveSalt(int house) {
            saltedBits |= 1 << house;
        }

        boolean isAway(int house) {
            return (awayBits >> house & 1) == 1;
        }

        void turnAway(int house) {
            awayBits ^= 1 << house;
        }

        int countPresent(int houses) {
            return houses - Integer.bitCount(awayBits);
        }
    }

    /** What each HOUSE WANTS, SAYS, is GIVEN, DRAWS, LACKS, and what RUNS OVER, for a standing. */
    private static final class Today {
        final int[] want;
        final int[] said;
        final int[] given;
        final int[] drawn;
        final int[] lacking;
        final int[] left;
        final int[] spilt;

        Today() {
            want = new int[MOST_HOUSES];
            said = new int[MOST_HOUSES];
            given = new int[MOST_HOUSES];
            drawn = new int[MOST_HOUSES];
            lacking = new int[MOST_HOUSES];
            left = new int[MOST_HOUSES];
            spilt = new int[MOST_HOUSES];
        }

        void lookAt(Told told, Standing standing) {
            hear(told, standing, 0);
            pour(told, standing);
        }

        /** What is said does not hang on the order: searches over orders hear once and pour often. */
        void hear(Told told, Standing standing, int guestBits) {
            int heat = told.heatOn(standing.dayNumber);
            for (int house = 0; house < told.houses; house++) {
                if (standing.isAway(house)) {
                    want[house] = 0;
                    said[house] = 0;
                } else {
                    int salt = standing.isSalted(house) ? SALTS_MORE : 0;
                    int guests = (guestBits >> house & 1) == 1 ? GUESTS_MORE : 0;
                    want[house] = wantByKind(told.wants[house], told.kinds[house]) + heat + salt + guests;
                    said[house] = want[house] + lieOf(told.kinds[house]);
                }
            }
        }

        void pour(Told told, Standing standing) {
            int gives = told.trough;
            if (told.ring && told.houses > 0) {
                gives = said[standing.order[told.houses - 1]];
            }
            for (int place = 0; place < told.houses; place++) {
                int house = standing.order[place];
                serve(house, gives, standing.stored[house], told.barrels[house]);
                gives = said[house];
            }
        }

        private void serve(int house, int gives, int stored, int barrel) {
            int there = gives + stored;
            given[house] = gives;
            drawn[house] = Math.min(want[house], there);
            lacking[house] = want[house] - drawn[house];
            left[house] = Math.min(there - drawn[house], barrel);
            spilt[house] = there - drawn[house] - left[house];
        }

        /** A DAY goes by. */
        void pass(Told told, Standing standing) {
            lookAt(told, standing);
            for (int house = 0; house < told.houses; house++) {
                standing.stored[house] = left[house];
                standing.lacked[house] += lacking[house];
            }
            standing.saltedBits = 0;
            standing.dayNumber++;
        }
    }

    /** How all stood ahead of each of the last ACTS; the rows go round, so that the first one is forgotten. */
    private static final class Acts {
        private final Standing[] before;
        private int first;
        int count;

        Acts() {
            before = new Standing[MOST_ACTS];
            for (int i = 0; i < MOST_ACTS; i++) {
                before[i] = new Standing();
            }
            first = 0;
            count = 0;
        }

        void clear() {
            first = 0;
            count = 0;
        }

        void remember(Standing standing) {
            if (count >= MOST_ACTS) {
                first = (first + 1) % MOST_ACTS;
                count = MOST_ACTS - 1;
            }
            before[(first + count) % MOST_ACTS].copyFrom(standing);
            count++;
        }

        boolean takeBack(Standing into) {
            if (count <= 0) {
                return false;
            }
            count--;
            into.copyFrom(before[(first + count) % MOST_ACTS]);
            return true;
        }
    }

    private static final class Slots {
        private final Standing[] kept;
        private int keptBits;

        Slots() {
            kept = new Standing[MOST_SLOTS];
            for (int slot = 0; slot < MOST_SLOTS; slot++) {
                kept[slot] = new Standing();
            }
            keptBits = 0;
        }

        void clear() {
            keptBits = 0;
        }

        void put(int slot, Standing standing) {
            kept[slot].copyFrom(standing);
            keptBits |= 1 << slot;
        }

        boolean fetch(int slot, Standing into) {
            if ((keptBits >> slot & 1) == 0) {
                return false;
            }
            into.copyFrom(kept[slot]);
            return true;
        }
    }

    /** SEEN outlives THE ROW: a house is known by its number alone. */
    private static final class Seen {
        private final int[] houses;
        private final int[] heats;
        private final int[] said;
        int count;

        Seen() {
            houses = new int[MOST_SEEN];
            heats = new int[MOST_SEEN];
            said = new int[MOST_SEEN];
            count = 0;
        }

        int add(int house, int heat, int saying) {
            if (count >= MOST_SEEN) {
                return FULL;
            }
            houses[count] = house;
            heats[count] = heat;
            said[count] = saying;
            count++;
            return count;
        }

        int clear() {
            int before = count;
            count = 0;
            return before;
        }

        int possibleWants(int house, int kind) {
            int bits = 0;
            for (int w = 0; w <= GREATEST_FIGURE; w++) {
                if (agrees(house, wantByKind(w, kind) + lieOf(kind))) {
                    bits |= 1 << w;
                }
            }
            return bits;
        }

        private boolean agrees(int house, int saysWithoutHeat) {
            for (int i = 0; i < count; i++) {
                if (houses[i] == house && said[i] != saysWithoutHeat + heats[i]) {
                    return false;
                }
            }
            return true;
        }
    }

    /** Days to come and other orders, tried on a standing of its own. */
    private static final class Outlook {
        private static final int A_DAY = 0;
        private static final int SWAPPED = 1;
        private static final int SALTED = 2;
        private static final int AWAY = 3;
        private static final int LACKS = 4;
        /** Six houses of twins, salted in the heat, want 144 together. */
        private static final int MORE_THAN_ALL_LACK = 1000;

        private final Told trialTold;
        private final Standing trial;
        private final Today look;
        int bestLack;
        int bestOrder;

        Outlook() {
            trialTold = new Told();
            trial = new Standing();
            look = new Today();
        }

        int inDays(Told told, Standing now, int days, boolean runsOver) {
            trial.copyFrom(now);
            int total = 0;
            for (int i = 0; i < days; i++) {
                look.pass(told, trial);
                total += sum(runsOver ? look.spilt : look.lacking, told.houses);
            }
            return total;
        }

        void seekOrder(Told told, Standing now, boolean byGreatest) {
            trial.copyFrom(now);
            trial.standAsTold();
            look.hear(told, trial, 0);
            bestLack = MORE_THAN_ALL_LACK;
            bestOrder = 0;
            boolean more = true;
            // Orders come by rising figures, so of like ones the first stays.
            for (int i = 0; i < MOST_ORDERS && more; i++) {
                look.pour(told, trial);
                int lack = byGreatest ? greatest(look.lacking, told.houses) : sum(look.lacking, told.houses);
                if (lack < bestLack) {
                    bestLack = lack;
                    bestOrder = figures(told.houses);
                }
                more = toNextOrder(told.houses);
            }
        }

        private int figures(int houses) {
            int figures = 0;
            for (int place = 0; place < houses; place++) {
                figures = 10 * figures + trial.order[place] + 1;
            }
            return figures;
        }

        private boolean toNextOrder(int houses) {
            int[] order = trial.order;
            int turn = houses - 2;
            while (turn >= 0 && order[turn] > order[turn + 1]) {
                turn--;
            }
            if (turn < 0) {
                return false;
            }
            int larger = houses - 1;
            while (larger > turn && order[larger] < order[turn]) {
                larger--;
            }
            exchangePlaces(order, turn, larger);
            for (int low = turn + 1, high = houses - 1; low < high; low++, high--) {
                exchangePlaces(order, low, high);
            }
            return true;
        }

        private static void exchangePlaces(int[] order, int one, int other) {
            int house = order[one];
            order[one] = order[other];
            order[other] = house;
        }

        int fewestSalts(Told told, Standing now, int house) {
            trial.copyFrom(now);
            int best = NONE;
            int fewest = MOST_HOUSES + 1;
            for (int bits = 0; bits < 1 << told.houses; bits++) {
                boolean allUnsalted = (bits & now.saltedBits) == 0;
                if (allUnsalted && Integer.bitCount(bits) < fewest) {
                    trial.saltedBits = now.saltedBits | bits;
                    look.lookAt(told, trial);
                    if (look.lacking[house] == 0) {
                        best = bits;
                        fewest = Integer.bitCount(bits);
                    }
                }
            }
            return best;
        }

        int leastBarrel(Told told, Standing now, int house) {
            trialTold.copyFrom(told);
            for (int barrel = 0; barrel <= GREATEST_FIGURE; barrel++) {
                trialTold.barrels[house] = barrel;
                trial.copyFrom(now);
                trial.stored[house] = 0;
                for (int i = 0; i < CASK_DAYS; i++) {
                    look.pass(trialTold, trial);
                }
                if (trial.lacked[house] == now.lacked[house]) {
                    return barrel;
                }
            }
            return NONE;
        }

        int firstNotSo(Told told, Standing now, int n, long row) {
            trial.copyFrom(now);
            for (int place = 0; place < n; place++) {
                int doing = (int) (withoutDoings(row, n - 1 - place) % 1000L);
                int kind = doing / 100;
                int middle = doing / 10 % 10;
                int last = doing % 10;
                if (!canBe(told, kind, middle, last)) {
                    return place;
                }
                carryOut(told, kind, middle, last);
            }
            return NONE;
        }

        private boolean canBe(Told told, int kind, int middle, int last) {
            boolean isHouse = last < told.houses;
            switch (kind) {
                case A_DAY: return middle == 0 && last == 0;
                case SWAPPED: return isHouse && middle < told.houses && middle != last;
                case SALTED: return isHouse && middle == 0 && !trial.isSalted(last);
                case AWAY: return isHouse && middle == 0;
                case LACKS: return isHouse && lackOf(told, last) <= middle;
                default: return false;
            }
        }

        private int lackOf(Told told, int house) {
            look.lookAt(told, trial);
            return look.lacking[house];
        }

        private void carryOut(Told told, int kind, int middle, int last) {
            switch (kind) {
                case A_DAY:
                    look.pass(told, trial);
                    break;
                case SWAPPED:
                    trial.exchange(middle, last);
                    break;
                case SALTED:
                    trial.giveSalt(last);
                    break;
                case AWAY:
                    trial.turnAway(last);
                    break;
                default:
                    break;
            }
        }
    }

    /** Shares, rests and chances, tried on a standing of its own. */
    private static final class Chances {
        private static final long SEED_TIMES = 6364136223846793005L;
        private static final long SEED_MORE = 1442695040888963407L;
        private static final int SEED_CASES = 18;
        private static final int PAIRS = 4;

        private final Standing trial;
        private final Today look;
        private final int[] oneHas;
        private final int[] otherHas;
        int restCount;
        int firstRest;
        long seedThen;

        Chances() {
            trial = new Standing();
            look = new Today();
            oneHas = new int[PAIRS];
            otherHas = new int[PAIRS];
        }

        /** By how much more is drawn when the HOUSE comes, over all orders together. */
        int addedInAllOrders(Told told, Standing now, int house) {
            trial.copyFrom(now);
            int total = 0;
            for (int come = 0; come < 1 << told.houses; come++) {
                if ((come >> house & 1) == 0) {
                    int earlier = Integer.bitCount(come);
                    int later = told.houses - 1 - earlier;
                    int added = drawnBy(told, now, come | 1 << house) - drawnBy(told, now, come);
                    total += ordersOf(earlier) * ordersOf(later) * added;
                }
            }
            return total;
        }

        private int drawnBy(Told told, Standing now, int comeBits) {
            int all = (1 << told.houses) - 1;
            trial.awayBits = now.awayBits | all & ~comeBits;
            look.lookAt(told, trial);
            return sum(look.drawn, told.houses);
        }

        /** A pair is a number of two bits, the one's choice above the other's. */
        void seekRests(Told told, Standing now, int one, int other) {
            trial.copyFrom(now);
            for (int pair = 0; pair < PAIRS; pair++) {
                trial.saltedBits = now.saltedBits | (pair >> 1) << one | (pair & 1) << other;
                look.lookAt(told, trial);
                oneHas[pair] = has(one);
                otherHas[pair] = has(other);
            }
            restCount = 0;
            firstRest = NONE;
            for (int pair = PAIRS - 1; pair >= 0; pair--) {
                if (oneHas[pair] >= oneHas[pair ^ 2] && otherHas[pair] >= otherHas[pair ^ 1]) {
                    restCount++;
                    firstRest = 10 * (pair >> 1) + (pair & 1);
                }
            }
        }

        private int has(int house) {
            return (trial.isSalted(house) ? WORTH_OF_FISH : 0) - look.lacking[house];
        }

        /** Of 10 to the power of the present houses, the parts in which all LACK m or more. */
        int waysToLack(Told told, Standing now, int m, int x) {
            int present = now.countPresent(told.houses);
            int ways = 0;
            for (int guestBits = 0; guestBits < 1 << told.houses; guestBits++) {
                if ((guestBits & now.awayBits) == 0) {
                    look.hear(told, now, guestBits);
                    look.pour(told, now);
                    if (sum(look.lacking, told.houses) >= m) {
                        int visited = Integer.bitCount(guestBits);
                        ways += power(x, visited) * power(TENTHS - x, present - visited);
                    }
                }
            }
            return ways;
        }

        int lackedByChance(Told told, Standing now, int m, long seedNow) {
            trial.copyFrom(now);
            seedThen = seedNow;
            int lacked = 0;
            for (int i = 0; i < m; i++) {
                seedThen = seedThen * SEED_TIMES + SEED_MORE;
                lacked += happen(told, (int) ((seedThen >>> 33) % SEED_CASES));
            }
            return lacked;
        }

        private int happen(Told told, int chance) {
            if (chance >= 2 * MOST_HOUSES) {
                look.pass(told, trial);
                return sum(look.lacking, told.houses);
            }
            int house = chance % MOST_HOUSES;
            if (house < told.houses) {
                if (chance < MOST_HOUSES) {
                    trial.giveSalt(house);
                } else {
                    trial.turnAway(house);
                }
            }
            return 0;
        }
    }
}

import java.math.BigInteger;

/** The boundary cases of part 3 (SEEN, shares, rests, chances, SLOTS) and of promises 20 to 30, a method for each sentence. */
public final class SeenBoundariesTest {
    private static final int UNKNOWN = -1, OUTSIDE = -2, STATE = -3, FULL = -4, NONE = -9;
    private static final int ALL_WANTS = 1023;
    private static final int[] NO_HOUSES_OF_TWO = {-1, -2, 2, 3, 5, 6, 32, 64, Integer.MIN_VALUE, Integer.MAX_VALUE};
    private static final BigInteger TIMES = new BigInteger("6364136223846793005");
    private static final BigInteger MORE = new BigInteger("1442695040888963407");
    private static final BigInteger WRAP = BigInteger.ONE.shiftLeft(64);

    private static final Checks c = new Checks();

    public static void main(String[] args) {
        seenNumbers();
        seenUnknown();
        seenAtMost();
        seenNothing();
        seenOfHousesGone();
        seenNotSaltedNotAway();
        wantsBits();
        wantsOfAll();
        wantsUnknown();
        shareOfOne();
        shareOfOneAway();
        shareInLeastTerms();
        shareUnknown();
        restsOfEqual();
        restsOfSalted();
        restsFirst();
        restsRefused();
        guestsTenths();
        guestsLack();
        guestsOfKinds();
        guestsInLeastTerms();
        guestsOutside();
        seedOfLongs();
        weeksSeedWraps();
        weeksUpperBits();
        weeksCases();
        weeksOfNoHouse();
        weeksSaltedAlready();
        weeksAwayOrNot();
        weeksNumbers();
        weeksOutside();
        slotsUnknown();
        slotsNoneKept();
        slotsKeepAll();
        slotsEachForItself();
        slotsEmptyActs();
        countsOutside();
        countsAtMost();
        c.end("SeenBoundariesTest");
    }

    private static void seenNumbers() {
        c.sentence("SAID v (0 to 30) on a day of HEAT t (0 to 3) .. OUTSIDE: heat, said");
        ThirstRow x = Checks.rowOf("T00H100H200");
        int[][] taken = {{0, 0, 0}, {1, 3, 30}, {0, 0, 30}, {1, 3, 0}};
        for (int i = 0; i < taken.length; i++) {
            c.due("the " + i + "th", x.see(taken[i][0], taken[i][1], taken[i][2]), i + 1);
        }
        int[][] outside = {{-1, 0}, {4, 0}, {0, -1}, {0, 31}, {4, 31}, {Integer.MIN_VALUE, 0}, {Integer.MAX_VALUE, 0},
            {0, Integer.MIN_VALUE}, {0, Integer.MAX_VALUE}};
        for (int[] o : outside) {
            c.due("see(0, " + o[0] + ", " + o[1] + ")", x.see(0, o[0], o[1]), OUTSIDE);
        }
        c.due("SEEN", x.count(10), 4);
    }

    private static void seenUnknown() {
        c.sentence("SEEN: how many there are. UNKNOWN");
        ThirstRow x = Checks.rowOf("T00H100H200");
        for (int house : NO_HOUSES_OF_TWO) {
            c.due("see(" + house + ", 0, 0)", x.see(house, 0, 0), UNKNOWN);
        }
        c.due("without houses", new ThirstRow().see(0, 0, 0), UNKNOWN);
        c.due("SEEN", x.count(10), 0);
    }

    private static void seenAtMost() {
        c.sentence("6 such at most .. FULL: 6");
        ThirstRow x = Checks.rowOf("T00H100H200");
        for (int i = 1; i <= 6; i++) {
            c.due("the " + i + "th", x.see(0, 0, 4), i);
        }
        c.due("the 7th", x.see(1, 0, 9), FULL);
        c.due("SEEN", x.count(10), 6);
        c.due("the 7th is not looked at", x.wants(1), ALL_WANTS);
        x.row();
        c.due("the 7th in a new row", x.see(0, 0, 4), FULL);
        c.due("unsee", x.unsee(), 6);
        c.due("room again", x.see(1, 0, 9), 1);
    }

    private static void seenNothing() {
        c.sentence("none at first .. Nothing is SEEN: how much there was");
        ThirstRow x = new ThirstRow();
        c.due("at first", x.count(10), 0);
        c.due("unsee at first", x.unsee(), 0);
        ThirstRow y = Checks.rowOf("T00H100");
        y.see(0, 0, 30);
        c.due("unsee", y.unsee(), 1);
        c.due("unsee again", y.unsee(), 0);
        c.due("nothing is looked at", y.wants(0), ALL_WANTS);
    }

    private static void seenOfHousesGone() {
        c.sentence("of HOUSES that there are not any more nothing is looked at");
        ThirstRow x = Checks.rowOf("T00H100H200H300");
        x.see(2, 0, 5);
        x.see(1, 0, 7);
        c.due("of 2", x.wants(2), 1 << 5);
        x.wipe();
        Checks.writeAll(x, "T00H100H200");
        x.row();
        c.due("of 0", x.wants(0), ALL_WANTS);
        c.due("of 1, which there is", x.wants(1), 1 << 7);
        c.due("of 2", x.wants(2), UNKNOWN);
    }

    private static void seenNotSaltedNotAway() {
        c.sentence("that a HOUSE, not SALTED, not AWAY, SAID v");
        ThirstRow x = Checks.rowOf("T00H100H200D3");
        x.salt(0);
        x.away(1);
        x.see(0, 1, 5);
        x.see(1, 2, 6);
        c.due("one that is SALTED now", x.wants(0), 1 << 4);
        c.due("one that is AWAY now", x.wants(1), 1 << 4);
    }

    /** What w may be, if one of that KIND SAID so much on a day of that HEAT. */
    private static void wantsBy(int kind, int heat, int said, int due) {
        ThirstRow x = Checks.rowOf("T00H9" + kind + "0");
        x.see(0, heat, said);
        c.due("KIND " + kind + ", HEAT " + heat + ", SAID " + said, x.wants(0), due);
    }

    private static void wantsBits() {
        c.sentence("WANTS of a HOUSE: what its w may be (bits 0 to 9) .. by its KIND");
        int[] least = {0, 3, 0, 2};
        int[] most = {9, 12, 18, 11};
        for (int kind = 0; kind < 4; kind++) {
            for (int heat = 0; heat <= 3; heat++) {
                wantsBy(kind, heat, least[kind] + heat, 1);
                wantsBy(kind, heat, most[kind] + heat, 1 << 9);
                wantsBy(kind, heat, most[kind] + heat + 1, 0);
                wantsBy(kind, heat, most[kind] + heat + 2, 0);
                if (least[kind] + heat > 0) {
                    wantsBy(kind, heat, least[kind] + heat - 1, 0);
                }
            }
            wantsBy(kind, 3, 30, 0);
        }
        wantsBy(2, 0, 1, 0);
        wantsBy(2, 0, 17, 0);
        wantsBy(2, 1, 1, 1);
    }

    private static void wantsOfAll() {
        c.sentence("so that all that is SEEN of it is so");
        ThirstRow x = Checks.rowOf("T00H100H200");
        c.due("nothing is SEEN", x.wants(0), ALL_WANTS);
        for (int i = 0; i < 5; i++) {
            x.see(0, i % 4, 7 + i % 4);
            c.due("all agree", x.wants(0), 1 << 7);
        }
        c.due("nothing is SEEN of the other", x.wants(1), ALL_WANTS);
        x.see(0, 0, 8);
        c.due("the last one does not", x.wants(0), 0);
    }

    private static void wantsUnknown() {
        c.sentence("WANTS, as bits. UNKNOWN");
        ThirstRow x = Checks.rowOf("T00H100H200");
        for (int house : NO_HOUSES_OF_TWO) {
            c.due("wants(" + house + ")", x.wants(house), UNKNOWN);
        }
        c.due("without houses", new ThirstRow().wants(0), UNKNOWN);
    }

    private static void share(ThirstRow x, int house, int above, int below) {
        c.due("share(" + house + ", true)", x.share(house, true), above);
        c.due("share(" + house + ", false)", x.share(house, false), below);
    }

    private static void shareOfOne() {
        c.sentence("SHARE of a HOUSE: if HOUSES come one by one, in each order as likely (others are AWAY)");
        share(Checks.rowOf("T50H300"), 0, 3, 1);
        share(Checks.rowOf("T20H300"), 0, 2, 1);
        share(Checks.rowOf("T00H300"), 0, 0, 1);
        share(Checks.rowOf("T01H300"), 0, 3, 1);
        ThirstRow six = Checks.rowOf("T10H100H100H100H100H100H100");
        share(six, 0, 3, 2);
        share(six, 1, 1, 1);
        share(six, 5, 1, 2);
        ThirstRow swapped = Checks.rowOf("T10H100H100H100");
        swapped.swap(0, 2);
        share(swapped, 0, 1, 2);
        share(swapped, 2, 3, 2);
    }

    private static void shareOfOneAway() {
        c.sentence("(those that are AWAY now stay so)");
        ThirstRow x = Checks.rowOf("T10H100H100");
        share(x, 0, 3, 2);
        x.away(1);
        share(x, 0, 1, 1);
        share(x, 1, 0, 1);
        x.away(0);
        share(x, 0, 0, 1);
    }

    private static void shareInLeastTerms() {
        c.sentence("FRACTIONS are told above, below (1 and more), in least terms");
        share(Checks.rowOf("T00H000H000"), 1, 0, 1);
        share(Checks.rowOf("T90H400H400"), 0, 6, 1);
        share(Checks.rowOf("T90H500H500"), 0, 15, 2);
        share(Checks.rowOf("T90H500H500"), 1, 5, 2);
        share(Checks.rowOf("T90H400H400H000H000H000H000"), 0, 6, 1);
    }

    private static void shareUnknown() {
        c.sentence("SHARE. UNKNOWN .. refusals of them are told likewise");
        ThirstRow x = Checks.rowOf("T00H100H200");
        for (int house : NO_HOUSES_OF_TWO) {
            share(x, house, UNKNOWN, UNKNOWN);
        }
        share(new ThirstRow(), 0, UNKNOWN, UNKNOWN);
    }

    private static void rests(String when, ThirstRow x, int howMany, int first) {
        c.due(when + ", how many", x.rests(0, 1, 0), howMany);
        c.due(when + ", the first", x.rests(0, 1, 1), first);
    }

    private static void restsOfEqual() {
        c.sentence("pairs in which neither has more by another choice alone");
        rests("2 for the fish, 3 lacked", Checks.rowOf("T50H500H000"), 1, 1);
        rests("2 for the fish, 2 lacked", Checks.rowOf("T60H500H000"), 2, 1);
        rests("2 for the fish, 1 lacked", Checks.rowOf("T70H500H000"), 1, 11);
        rests("2 for the fish, none lacked", Checks.rowOf("T80H500H000"), 1, 11);
        rests("both lack", Checks.rowOf("T00H500H900"), 1, 0);
        rests("either both or none", Checks.rowOf("T01H500H500"), 2, 0);
    }

    private static void restsOfSalted() {
        c.sentence("each is SALTED (1; also if it is), or is as it is (0)");
        ThirstRow x = Checks.rowOf("T90H000H900");
        x.salt(0);
        rests("the one is SALTED", x, 2, 0);
        x.salt(1);
        rests("both are SALTED", x, 4, 0);
        ThirstRow other = Checks.rowOf("T90H000H900");
        other.salt(1);
        rests("the other one is SALTED", other, 2, 10);
        ThirstRow away = Checks.rowOf("T00H500H500");
        away.away(0);
        away.away(1);
        rests("both are AWAY", away, 1, 11);
    }

    private static void restsFirst() {
        c.sentence("how many; the first (10 times the one and the other)");
        ThirstRow x = Checks.rowOf("T50H500H000");
        c.due("the one and the other", x.rests(0, 1, 1), 1);
        c.due("the other way round", x.rests(1, 0, 1), 10);
        c.due("how many, the other way round", x.rests(1, 0, 0), 1);
        c.due("others are as they are", Checks.rowOf("T01H000H500H000H900").rests(3, 2, 1), 1);
    }

    private static void restsRefused() {
        c.sentence("UNKNOWN: both; OUTSIDE: both are one, what");
        ThirstRow x = Checks.rowOf("T00H100H200");
        for (int house : NO_HOUSES_OF_TWO) {
            c.due("rests(" + house + ", 0, 0)", x.rests(house, 0, 0), UNKNOWN);
            c.due("rests(1, " + house + ", 1)", x.rests(1, house, 1), UNKNOWN);
            c.due("rests(" + house + ", " + house + ", 0)", x.rests(house, house, 0), UNKNOWN);
            c.due("rests(" + house + ", 0, 2)", x.rests(house, 0, 2), UNKNOWN);
        }
        int[][] outside = {{0, 0, 0}, {1, 1, 1}, {0, 1, -1}, {0, 1, 2}, {0, 0, 2}, {0, 1, Integer.MIN_VALUE},
            {1, 0, Integer.MAX_VALUE}};
        for (int[] o : outside) {
            c.due("rests(" + o[0] + ", " + o[1] + ", " + o[2] + ")", x.rests(o[0], o[1], o[2]), OUTSIDE);
        }
        c.due("without houses", new ThirstRow().rests(0, 0, 0), UNKNOWN);
    }

    private static void guests(ThirstRow x, int m, int tenths, int above, int below) {
        c.due("guests(" + m + ", " + tenths + ", true)", x.guests(m, tenths, true), above);
        c.due("guests(" + m + ", " + tenths + ", false)", x.guests(m, tenths, false), below);
    }

    private static void guestsTenths() {
        c.sentence("WANTS 2 more by x tenths (0 to 10), by itself");
        ThirstRow x = Checks.rowOf("T50H500");
        int[][] fractions = {{0, 1}, {1, 10}, {1, 5}, {3, 10}, {2, 5}, {1, 2}, {3, 5}, {7, 10}, {4, 5}, {9, 10}, {1, 1}};
        for (int tenths = 0; tenths <= 10; tenths++) {
            guests(x, 1, tenths, fractions[tenths][0], fractions[tenths][1]);
            guests(x, 2, tenths, fractions[tenths][0], fractions[tenths][1]);
            guests(x, 3, tenths, 0, 1);
        }
        guests(Checks.rowOf("T50H500H500H500H500H500H500"), 1, 1, 468559, 1000000);
    }

    private static void guestsLack() {
        c.sentence("that all LACK m (0 to 60) or more together today");
        ThirstRow x = Checks.rowOf("T00H000H920H000H920H000H920D3");
        guests(x, 0, 5, 1, 1);
        guests(x, 53, 5, 1, 1);
        guests(x, 54, 5, 31, 32);
        guests(x, 60, 5, 3, 16);
        guests(x, 60, 0, 0, 1);
        guests(x, 57, 0, 1, 1);
        guests(x, 58, 0, 0, 1);
        guests(x, 59, 10, 1, 1);
        guests(x, 60, 10, 0, 1);
        guests(new ThirstRow(), 0, 5, 1, 1);
        guests(new ThirstRow(), 1, 5, 0, 1);
    }

    private static void guestsOfKinds() {
        c.sentence("each HOUSE that is not AWAY WANTS 2 more");
        ThirstRow x = Checks.rowOf("T50H500H000");
        x.away(0);
        guests(x, 2, 10, 1, 1);
        guests(x, 3, 10, 0, 1);
        guests(x, 1, 3, 3, 10);
        x.away(1);
        guests(x, 0, 3, 1, 1);
        guests(x, 1, 10, 0, 1);
        guests(Checks.rowOf("T00H020"), 2, 10, 1, 1);
        guests(Checks.rowOf("T00H020"), 3, 10, 0, 1);
        ThirstRow salted = Checks.rowOf("T00H000");
        salted.salt(0);
        guests(salted, 5, 10, 1, 1);
        guests(salted, 6, 10, 0, 1);
    }

    private static void guestsInLeastTerms() {
        c.sentence("FRACTIONS are told above, below (1 and more), in least terms");
        guests(Checks.rowOf("T50H500H500"), 1, 5, 3, 4);
        guests(Checks.rowOf("T40H400H400"), 1, 3, 51, 100);
        guests(Checks.rowOf("T40H400H400"), 1, 2, 9, 25);
    }

    private static void guestsOutside() {
        c.sentence("GUESTS. OUTSIDE: m, x .. refusals of them are told likewise");
        int[][] outside = {{-1, 0}, {61, 0}, {0, -1}, {0, 11}, {61, 11}, {Integer.MIN_VALUE, 5}, {Integer.MAX_VALUE, 5},
            {5, Integer.MIN_VALUE}, {5, Integer.MAX_VALUE}};
        for (int[] o : outside) {
            guests(Checks.rowOf("T00H100"), o[0], o[1], OUTSIDE, OUTSIDE);
            guests(new ThirstRow(), o[0], o[1], OUTSIDE, OUTSIDE);
        }
    }

    private static void seedOfLongs() {
        c.sentence("THE SEED is v: what it was (a long; 0 at first)");
        ThirstRow x = new ThirstRow();
        long[] seeds = {Long.MAX_VALUE, Long.MIN_VALUE, -1L, 1L, 1L << 32, 0L};
        long before = 0L;
        for (long seed : seeds) {
            c.due("seed(" + seed + ")", x.seed(seed), before);
            before = seed;
        }
        c.due("at last", x.seed(5L), 0);
    }

    private static long stepped(long seed) {
        return BigInteger.valueOf(seed).multiply(TIMES).add(MORE).longValue();
    }

    /** The seed behind which the next one is this. */
    private static long seedAheadOf(long next) {
        return BigInteger.valueOf(next).subtract(MORE).multiply(TIMES.modInverse(WRAP)).longValue();
    }

    private static long caseOf(long seed) {
        return (seed >>> 33) % 18;
    }

    /** A seed by which the first thing comes of these upper 31 bits, and A DAY goes by at the next. */
    private static long seedFor(long upper) {
        for (long low = 0; low < 1000000L; low++) {
            long first = upper << 33 | low;
            if (caseOf(stepped(first)) >= 12) {
                return seedAheadOf(first);
            }
        }
        throw new IllegalStateException("no seed for " + upper);
    }

    private static void weeksSeedWraps() {
        c.sentence("x times 6364136223846793005 and 1442695040888963407 (64 bits, wrapping)");
        long[] seeds = {0L, 1L, -1L, Long.MAX_VALUE, Long.MIN_VALUE, 1L << 32, 0x123456789abcdefL};
        ThirstRow x = new ThirstRow();
        for (long seed : seeds) {
            x.seed(seed);
            x.weeks(1);
            c.due("behind " + seed, x.seed(seed), stepped(seed));
            x.weeks(30);
            long due = seed;
            for (int i = 0; i < 30; i++) {
                due = stepped(due);
            }
            c.due("30 times behind " + seed, x.seed(0L), due);
        }
        c.due("at first it is 0", firstSeed(), stepped(0L));
    }

    private static long firstSeed() {
        ThirstRow x = new ThirstRow();
        x.weeks(1);
        return x.seed(0L);
    }

    private static void weeksUpperBits() {
        c.sentence("its upper 31 bits by 18, what is left");
        long[] next = {0L, (1L << 33) - 1, 11L << 33, (12L << 33) - 1, 12L << 33, (18L << 33) - 1, 18L << 33, Long.MAX_VALUE,
            Long.MIN_VALUE, -1L, -1L << 33};
        for (long first : next) {
            ThirstRow x = Checks.rowOf("T00H700");
            x.seed(seedAheadOf(first));
            c.due("weeks(1) by " + first, x.weeks(1), caseOf(first) >= 12 ? 7 : 0);
            c.due("THE SEED", x.seed(0L), first);
        }
    }

    private static int weeks(ThirstRow x, long upper) {
        x.seed(seedFor(upper));
        return x.weeks(2);
    }

    /** Six that want as much each, by a trough of 0, all AWAY but for one. */
    private static ThirstRow onlyOne(int want, int present) {
        String each = "H" + want + "00";
        ThirstRow x = Checks.rowOf("T00" + each.repeat(6));
        for (int house = 0; house < 6; house++) {
            if (house != present) {
                x.away(house);
            }
        }
        return x;
    }

    private static void weeksCases() {
        c.sentence("0 to 5 that HOUSE is SALTED; 6 to 11 that less 6 HOUSE is AWAY; 12 and more A DAY");
        for (int present = 0; present < 6; present++) {
            for (int house = 0; house < 6; house++) {
                String which = house + ", present is " + present;
                c.due("SALTED " + which, weeks(onlyOne(0, present), house), house == present ? 3 : 0);
                c.due("SALTED, going round, " + which, weeks(onlyOne(0, present), 18 + house), house == present ? 3 : 0);
                int due = house == present ? 0 : Math.abs(house - present) == 1 ? 5 : 10;
                c.due("AWAY " + which, weeks(onlyOne(5, present), 6 + house), due);
            }
        }
        for (int upper = 12; upper < 18; upper++) {
            c.due("two days by " + upper, weeks(onlyOne(5, 0), upper), 10);
        }
    }

    private static void weeksOfNoHouse() {
        c.sentence("if there is such a one");
        for (int upper = 0; upper < 12; upper++) {
            c.due("of none, upper bits " + upper, weeks(new ThirstRow(), upper), 0);
            if (upper % 6 >= 2) {
                c.due("of two, upper bits " + upper, weeks(Checks.rowOf("T00H100H300"), upper), 3);
            }
        }
        c.due("of two, 0 SALTED", weeks(Checks.rowOf("T00H100H300"), 0), 4);
        c.due("of two, 1 SALTED", weeks(Checks.rowOf("T00H100H300"), 1), 6);
        c.due("of two, 0 AWAY", weeks(Checks.rowOf("T00H100H300"), 6), 3);
        c.due("of two, 1 AWAY", weeks(Checks.rowOf("T00H100H300"), 7), 1);
    }

    private static void weeksSaltedAlready() {
        c.sentence("that HOUSE is SALTED, if there is such a one, and it is not");
        ThirstRow x = Checks.rowOf("T00H100");
        c.due("it is not", weeks(x, 0), 4);
        x.salt(0);
        c.due("it is", weeks(x, 0), 4);
        c.due("it stays", x.count(7), 1);
    }

    private static void weeksAwayOrNot() {
        c.sentence("that less 6 HOUSE is AWAY, or not any more");
        ThirstRow x = Checks.rowOf("T00H100");
        c.due("it is AWAY", weeks(x, 6), 0);
        x.away(0);
        c.due("not any more", weeks(x, 6), 1);
        c.due("it stays", x.count(8), 1);
    }

    private static void weeksNumbers() {
        c.sentence("m times (1 to 30) .. what all have LACKED more, together");
        for (int m = 1; m <= 30; m++) {
            ThirstRow x = Checks.rowOf("T00H700");
            x.salt(0);
            x.day();
            int due = 0;
            long seed = 99L;
            boolean salted = false;
            boolean away = false;
            for (int i = 0; i < m; i++) {
                seed = stepped(seed);
                if (caseOf(seed) >= 12) {
                    due += away ? 0 : salted ? 10 : 7;
                    salted = false;
                } else if (caseOf(seed) % 6 == 0) {
                    salted |= caseOf(seed) == 0;
                    away ^= caseOf(seed) == 6;
                }
            }
            x.seed(99L);
            c.due("weeks(" + m + ")", x.weeks(m), due);
            c.due("THE SEED", x.seed(0L), seed);
            c.due("LACKED stays", x.count(6), 10);
        }
    }

    private static void weeksOutside() {
        c.sentence("WEEKS. OUTSIDE: m");
        ThirstRow x = Checks.rowOf("T00H700");
        x.seed(7L);
        int[] outside = {0, 31, -1, Integer.MIN_VALUE, Integer.MAX_VALUE};
        for (int m : outside) {
            c.due("weeks(" + m + ")", x.weeks(m), OUTSIDE);
            c.due("THE SEED stays", x.seed(7L), 7);
        }
    }

    private static void slotsUnknown() {
        c.sentence("SLOTS 0 to 1 .. UNKNOWN");
        ThirstRow x = Checks.rowOf("T00H100");
        int[] strange = {-1, 2, 3, 31, 32, 33, 64, Integer.MIN_VALUE, Integer.MAX_VALUE};
        for (int slot : strange) {
            c.due("keep(" + slot + ")", x.keep(slot), UNKNOWN);
            c.due("again(" + slot + ")", x.again(slot), UNKNOWN);
        }
        c.due("nothing was kept in 0", x.again(0), STATE);
        c.due("nothing was kept in 1", x.again(1), STATE);
    }

    private static void slotsNoneKept() {
        c.sentence("STATE: none were kept");
        ThirstRow x = Checks.rowOf("T00H100");
        x.day();
        c.due("slot 0", x.again(0), STATE);
        c.due("slot 1", x.again(1), STATE);
        c.due("ACTS stay", x.count(9), 1);
        x.keep(1);
        c.due("slot 0, as 1 was kept", x.again(0), STATE);
        c.due("slot 1 was kept", x.again(1), 1);
        x.row();
        c.due("slot 1, in a row made anew", x.again(1), STATE);
        ThirstRow none = new ThirstRow();
        none.day();
        c.due("without houses, keep", none.keep(0), 1);
        none.day();
        c.due("without houses, again", none.again(0), 1);
    }

    private static void slotsKeepAll() {
        c.sentence("keep PLACES, BARRELS, who is SALTED, AWAY, has LACKED, THE DAY");
        ThirstRow x = Checks.rowOf("T90H305H500H707D0D3");
        x.day();
        x.swap(0, 2);
        x.salt(1);
        x.away(2);
        c.due("keep", x.keep(1), 1);
        ThirstRow due = Checks.rowOf("T90H305H500H707D0D3");
        due.day();
        due.swap(0, 2);
        due.salt(1);
        due.away(2);
        x.undo();
        x.day();
        x.swap(1, 0);
        x.salt(0);
        x.away(0);
        x.day();
        c.due("again", x.again(1), 1);
        for (int house = 0; house < 3; house++) {
            for (int what = 0; what <= 7; what++) {
                c.due("house(" + house + ", " + what + ")", x.house(house, what), due.house(house, what));
            }
        }
        for (int what = 3; what <= 8; what++) {
            c.due("count(" + what + ")", x.count(what), due.count(what));
        }
    }

    private static void slotsEachForItself() {
        c.sentence("They are kept: THE DAY .. They are as they were kept: THE DAY");
        ThirstRow x = Checks.rowOf("T00H100");
        c.due("keep(0)", x.keep(0), 0);
        x.day();
        c.due("keep(1)", x.keep(1), 1);
        x.day();
        c.due("again(0)", x.again(0), 0);
        c.due("again(1)", x.again(1), 1);
        c.due("again(0), a second time", x.again(0), 0);
        x.day();
        x.day();
        x.day();
        c.due("keep(0) anew", x.keep(0), 3);
        c.due("again(1) stays", x.again(1), 1);
        c.due("again(0) is the later one", x.again(0), 3);
    }

    private static void slotsEmptyActs() {
        c.sentence("(THE ROW of ACTS is empty when one goes on)");
        ThirstRow x = Checks.rowOf("T00H100");
        x.day();
        x.keep(0);
        c.due("keep leaves ACTS", x.count(9), 1);
        c.due("again", x.again(0), 1);
        c.due("ACTS", x.count(9), 0);
        c.due("undo", x.undo(), STATE);
        for (int i = 0; i < 15; i++) {
            x.day();
        }
        x.again(0);
        c.due("ACTS, of a full row", x.count(9), 0);
        x.day();
        c.due("undo of a new one", x.undo(), 0);
        c.due("THE DAY", x.count(3), 1);
    }

    private static void countsOutside() {
        c.sentence("10 SEEN. OUTSIDE");
        ThirstRow x = Checks.rowOf("T00H100");
        c.due("count(10)", x.count(10), 0);
        int[] outside = {-1, 11, 12, -9, Integer.MIN_VALUE, Integer.MAX_VALUE};
        for (int what : outside) {
            c.due("count(" + what + ")", x.count(what), OUTSIDE);
            c.due("of a new object, count(" + what + ")", new ThirstRow().count(what), OUTSIDE);
        }
    }

    private static void countsAtMost() {
        c.sentence("0 letters of THE TEXT, 1 HOUSES, 2 HEATS, .. 7 who is SALTED (bits), 8 AWAY (bits), 9 ACTS in the row, 10 SEEN");
        ThirstRow x = Checks.rowOf("T00H000H920H000H920H000H920D3D3D3D3D3");
        c.due("LACK today", x.count(5), 57);
        for (int house = 0; house < 6; house++) {
            x.salt(house);
        }
        for (int house = 0; house < 6; house++) {
            x.away(house);
            x.see(house, 0, 0);
        }
        int[] due = {37, 6, 5, 0, 3, 0, 0, 63, 63, 12, 6};
        for (int what = 0; what < due.length; what++) {
            c.due("count(" + what + ")", x.count(what), due[what]);
        }
        x.write('x');
        x.write('x');
        x.write('x');
        x.day();
        x.day();
        x.day();
        int[] then = {40, 6, 5, 3, 3, 0, 0, 0, 63, 14, 6};
        for (int what = 0; what < then.length; what++) {
            c.due("count(" + what + ") then", x.count(what), then[what]);
        }
    }
}

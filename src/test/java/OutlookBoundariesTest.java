/** The boundary cases of part 2 (days to come, orders, doings) and of promises 14 to 19, a method for each sentence. */
public final class OutlookBoundariesTest {
    private static final int UNKNOWN = -1, OUTSIDE = -2, NONE = -9;
    private static final int[] NO_HOUSES_OF_TWO = {-1, -2, 2, 3, 5, 6, 32, 64, Integer.MIN_VALUE, Integer.MAX_VALUE};

    private static final Checks c = new Checks();

    public static void main(String[] args) {
        daysAhead();
        daysAheadLess();
        daysAheadRunOver();
        daysAheadOutside();
        orderOfNone();
        orderOfOne();
        orderOfLikeOnes();
        orderAsNumber();
        orderIsOfToday();
        worstIsTheGreatest();
        saltsFewest();
        saltsNotSalted();
        saltsNone();
        saltsUnknown();
        caskLeast();
        caskNone();
        caskEmptyFromNow();
        caskUnknown();
        judgeDay();
        judgeSwapped();
        judgeSalted();
        judgeAway();
        judgeLacks();
        judgeOtherFigures();
        judgePlace();
        judgeNumberOutside();
        judgeRowOutside();
        judgeSixHouses();
        judgeWithoutHouses();
        c.end("OutlookBoundariesTest");
    }

    private static void daysAhead() {
        c.sentence("IN n DAYS (0 to 20): what all have LACKED then");
        ThirstRow x = Checks.rowOf("T00H900");
        for (int n = 0; n <= 20; n++) {
            c.due("ahead(" + n + ", 0)", x.ahead(n, 0), 9 * n);
        }
        c.due("HEATS go round", Checks.rowOf("T00H000D0D0D0D0D3").ahead(20, 0), 12);
        c.due("HEATS, but for the last", Checks.rowOf("T00H000D0D0D0D0D3").ahead(19, 0), 9);
        c.due("without houses", new ThirstRow().ahead(20, 0), 0);
        ThirstRow salted = Checks.rowOf("T00H000");
        salted.salt(0);
        c.due("none gone by, SALTED", salted.ahead(0, 0), 0);
        c.due("SALTED on the first one alone", salted.ahead(20, 0), 3);
    }

    private static void daysAheadLess() {
        c.sentence("what all have LACKED then less now");
        ThirstRow x = Checks.rowOf("T00H500D0D1");
        x.day();
        x.day();
        x.day();
        c.due("LACKED now", x.count(6), 16);
        c.due("ahead(0, 0)", x.ahead(0, 0), 0);
        c.due("ahead(1, 0)", x.ahead(1, 0), 6);
        c.due("ahead(2, 0)", x.ahead(2, 0), 11);
    }

    private static void daysAheadRunOver() {
        c.sentence("what RUNS OVER in all these together");
        ThirstRow x = Checks.rowOf("T10H005");
        c.due("ahead(0, 1)", x.ahead(0, 1), 0);
        c.due("ahead(5, 1)", x.ahead(5, 1), 0);
        c.due("ahead(6, 1)", x.ahead(6, 1), 1);
        c.due("ahead(20, 1)", x.ahead(20, 1), 15);
        x.day();
        c.due("ahead(20, 1) from a later day", x.ahead(20, 1), 16);
        c.due("of two", Checks.rowOf("T90H200H100").ahead(20, 1), 160);
        c.due("without houses", Checks.rowOf("T90").ahead(20, 1), 0);
    }

    private static void daysAheadOutside() {
        c.sentence("OUTSIDE: n, what");
        ThirstRow x = Checks.rowOf("T00H100");
        int[][] outside = {{-1, 0}, {21, 0}, {-1, 1}, {21, 1}, {0, -1}, {0, 2}, {20, 2}, {21, 2}, {Integer.MIN_VALUE, 0},
            {Integer.MAX_VALUE, 0}, {0, Integer.MIN_VALUE}, {0, Integer.MAX_VALUE}};
        for (int[] o : outside) {
            c.due("ahead(" + o[0] + ", " + o[1] + ")", x.ahead(o[0], o[1]), OUTSIDE);
            c.due("without houses, ahead(" + o[0] + ", " + o[1] + ")", new ThirstRow().ahead(o[0], o[1]), OUTSIDE);
        }
    }

    private static void orders(String when, ThirstRow x, int howMuch, int order) {
        c.due(when + ", order(false)", x.order(false), howMuch);
        c.due(when + ", order(true)", x.order(true), order);
    }

    private static void worsts(String when, ThirstRow x, int howMuch, int order) {
        c.due(when + ", worst(false)", x.worst(false), howMuch);
        c.due(when + ", worst(true)", x.worst(true), order);
    }

    private static void orderOfNone() {
        c.sentence("the order (0: there are none)");
        orders("a new object", new ThirstRow(), 0, 0);
        worsts("a new object", new ThirstRow(), 0, 0);
        orders("a ring of none", Checks.rowOf("T91D3"), 0, 0);
        worsts("a ring of none", Checks.rowOf("T91D3"), 0, 0);
    }

    private static void orderOfOne() {
        c.sentence("of all orders of HOUSES along PLACES");
        orders("one", Checks.rowOf("T00H920"), 18, 1);
        worsts("one", Checks.rowOf("T00H920"), 18, 1);
        orders("one in a ring", Checks.rowOf("T01H920"), 0, 1);
        orders("six, the last of all", Checks.rowOf("T90H100H200H300H400H500H600"), 0, 654321);
        worsts("six, the last of all", Checks.rowOf("T90H100H200H300H400H500H600"), 0, 654321);
        orders("six, the first of all", Checks.rowOf("T90H600H500H400H300H200H100"), 0, 123456);
        orders("five, one amid others", Checks.rowOf("T90H300H500H100H400H200"), 0, 24153);
        worsts("five, one amid others", Checks.rowOf("T90H300H500H100H400H200"), 0, 24153);
    }

    private static void orderOfLikeOnes() {
        c.sentence("of like ones the first");
        ThirstRow x = Checks.rowOf("T00H100H100H100H100H100H100");
        orders("all alike", x, 1, 123456);
        worsts("all alike", x, 1, 123456);
        x.swap(0, 5);
        x.swap(2, 1);
        orders("all alike, from elsewhere", x, 1, 123456);
        worsts("all alike, from elsewhere", x, 1, 123456);
        for (int house = 0; house < 6; house++) {
            x.away(house);
        }
        orders("all AWAY", x, 0, 123456);
        worsts("all AWAY", x, 0, 123456);
        orders("a ring has no first place", Checks.rowOf("T01H300H200H100"), 2, 123);
    }

    private static void orderAsNumber() {
        c.sentence("(figures by PLACES, HOUSE and 1; the least as a number)");
        ThirstRow x = Checks.rowOf("T90H100H300H200");
        c.due("HOUSES 1, 2, 0 along PLACES", x.order(true), 231);
        c.due("HOUSES 1, 2, 0 along PLACES, at the worst", x.worst(true), 231);
        c.due("two", Checks.rowOf("T90H100H900").order(true), 21);
        c.due("two alike by what is lacked", Checks.rowOf("T90H500H500").order(true), 12);
    }

    private static void orderIsOfToday() {
        c.sentence("the one by which all LACK least together today");
        ThirstRow x = Checks.rowOf("T50H300H300D0D2");
        orders("a cool day", x, 0, 12);
        x.salt(1);
        orders("the other one SALTED", x, 1, 21);
        x.day();
        orders("a hot day, nobody SALTED any more", x, 0, 12);
        x.away(0);
        orders("one that is AWAY gives nothing", x, 0, 21);
        worsts("one that is AWAY gives nothing", x, 0, 21);
    }

    private static void worstIsTheGreatest() {
        c.sentence("WORST: likewise the one by which the greatest that one LACKS today is least");
        ThirstRow x = Checks.rowOf("T01H100H300H200");
        orders("in all", x, 2, 123);
        worsts("at the worst", x, 1, 132);
        worsts("nothing is lacked", Checks.rowOf("T90H900H900"), 0, 12);
    }

    private static void saltsFewest() {
        c.sentence("SALTS for a HOUSE: the fewest HOUSES (bits), by which, SALTED, it LACKS nothing today");
        ThirstRow x = Checks.rowOf("T90H900H600H900H000");
        c.due("it LACKS nothing", x.salts(0), 0);
        c.due("it LACKS nothing, with much to spare", x.salts(3), 0);
        c.due("it LACKS 3", x.salts(2), 2);
        x.away(2);
        c.due("it is AWAY", x.salts(2), 0);
        ThirstRow ring = Checks.rowOf("T01H300H300H300H300H300H100");
        c.due("the last bit", ring.salts(0), 32);
        ring.swap(4, 5);
        c.due("by PLACES", ring.salts(4), 32);
        c.due("by PLACES no more", ring.salts(0), 0);
    }

    private static void saltsNotSalted() {
        c.sentence("HOUSES that are not SALTED");
        ThirstRow x = Checks.rowOf("T90H300H600");
        c.due("not SALTED", x.salts(1), 1);
        x.salt(0);
        c.due("SALTED, and it is enough", x.salts(1), 0);
        x.salt(1);
        c.due("SALTED, and it is not enough", x.salts(1), NONE);
    }

    private static void saltsNone() {
        c.sentence("SALTS, as bits; NONE");
        c.due("it LACKS 3", Checks.rowOf("T90H300H600").salts(1), 1);
        c.due("it LACKS 4", Checks.rowOf("T90H300H700").salts(1), NONE);
        c.due("the first one, by the TROUGH", Checks.rowOf("T00H100H900").salts(0), NONE);
        ThirstRow x = Checks.rowOf("T90H900H100");
        x.away(0);
        c.due("salt for one that is AWAY", x.salts(1), NONE);
    }

    private static void saltsUnknown() {
        c.sentence("SALTS .. UNKNOWN");
        ThirstRow x = Checks.rowOf("T00H100H200");
        for (int house : NO_HOUSES_OF_TWO) {
            c.due("salts(" + house + ")", x.salts(house), UNKNOWN);
        }
        c.due("without houses", new ThirstRow().salts(0), UNKNOWN);
    }

    private static void caskLeast() {
        c.sentence("CASK for a HOUSE: the least BARREL (0 to 9) by which it has LACKED nothing more in 10 DAYS");
        c.due("0", Checks.rowOf("T50H500").cask(0), 0);
        c.due("0, though it has one", Checks.rowOf("T90H009").cask(0), 0);
        c.due("1", Checks.rowOf("T50H300D0D3").cask(0), 1);
        c.due("2", Checks.rowOf("T50H300D0D3D3").cask(0), 2);
        c.due("3", Checks.rowOf("T50H300D0D0D3D3D3").cask(0), 3);
        c.due("a day that is lacked on the fifth", Checks.rowOf("T50H300D0D3D3D3D0").cask(0), NONE);
        ThirstRow x = Checks.rowOf("T00H909");
        x.away(0);
        c.due("one that is AWAY", x.cask(0), 0);
    }

    private static void caskNone() {
        c.sentence("CASK; NONE");
        c.due("never enough", Checks.rowOf("T40H509").cask(0), NONE);
        c.due("just enough", Checks.rowOf("T50H509").cask(0), 0);
        c.due("behind one that wants less", Checks.rowOf("T90H400H509").cask(1), NONE);
        c.due("behind a LIAR", Checks.rowOf("T90H330H509").cask(1), 0);
    }

    private static void caskEmptyFromNow() {
        c.sentence("if it had that one, empty, from now on");
        ThirstRow x = Checks.rowOf("T50H309D0D3");
        c.due("now is the cool day", x.cask(0), 1);
        x.day();
        c.due("in the BARREL", x.house(0, 3), 2);
        c.due("now is the hot day", x.cask(0), NONE);
        ThirstRow lacked = Checks.rowOf("T50H300D3D0");
        c.due("now is the first day", lacked.cask(0), NONE);
        lacked.day();
        c.due("it has LACKED", lacked.house(0, 5), 1);
        c.due("nothing more", lacked.cask(0), 1);
    }

    private static void caskUnknown() {
        c.sentence("CASK .. UNKNOWN");
        ThirstRow x = Checks.rowOf("T00H100H200");
        for (int house : NO_HOUSES_OF_TWO) {
            c.due("cask(" + house + ")", x.cask(house), UNKNOWN);
        }
        c.due("without houses", new ThirstRow().cask(0), UNKNOWN);
    }

    /** Two houses, of which the first LACKS nothing and the second one 4. */
    private static ThirstRow two() {
        return Checks.rowOf("T90H300H700");
    }

    private static void judged(int n, long row, int due) {
        c.due("judge(" + n + ", " + row + ")", two().judge(n, row), due);
    }

    private static void judgeDay() {
        c.sentence("0, 0, 0: A DAY");
        judged(1, 0, NONE);
        judged(4, 0, NONE);
        judged(1, 1, 0);
        judged(1, 9, 0);
        judged(1, 10, 0);
        judged(1, 90, 0);
        judged(1, 99, 0);
        judged(3, 200000200L, NONE);
    }

    private static void judgeSwapped() {
        c.sentence("1 and two HOUSES: SWAPPED");
        judged(1, 101, NONE);
        judged(1, 110, NONE);
        judged(1, 100, 0);
        judged(1, 111, 0);
        judged(1, 102, 0);
        judged(1, 120, 0);
        judged(1, 199, 0);
        judged(2, 101401, NONE);
        judged(2, 101440, NONE);
    }

    private static void judgeSalted() {
        c.sentence("2, 0, a HOUSE: SALTED");
        judged(1, 200, NONE);
        judged(1, 201, NONE);
        judged(1, 202, 0);
        judged(1, 209, 0);
        judged(1, 210, 0);
        judged(2, 200200, 1);
        judged(2, 200201, NONE);
        judged(2, 200411, NONE);
        judged(2, 200401, 1);
        ThirstRow x = two();
        x.salt(1);
        c.due("one that is SALTED now", x.judge(1, 201), 0);
        c.due("one that is SALTED now, a day on", x.judge(2, 201), NONE);
    }

    private static void judgeAway() {
        c.sentence("3, 0, a HOUSE: AWAY, or not any more");
        judged(1, 300, NONE);
        judged(1, 301, NONE);
        judged(1, 302, 0);
        judged(1, 309, 0);
        judged(1, 310, 0);
        judged(2, 301401, NONE);
        judged(3, 301301401L, 2);
        judged(3, 301301441L, NONE);
    }

    private static void judgeLacks() {
        c.sentence("4, a figure, a HOUSE: it LACKS that or less today");
        judged(1, 400, NONE);
        judged(1, 431, 0);
        judged(1, 441, NONE);
        judged(1, 491, NONE);
        judged(1, 402, 0);
        judged(1, 492, 0);
        c.due("9 is LACKED", Checks.rowOf("T00H900").judge(1, 490), NONE);
        c.due("10 is LACKED", Checks.rowOf("T00H900D1").judge(1, 490), 0);
        c.due("no more on a later day", Checks.rowOf("T00H900D1D0").judge(2, 490), NONE);
    }

    private static void judgeOtherFigures() {
        c.sentence("the place of the first that can not be");
        for (int figure = 5; figure <= 9; figure++) {
            judged(1, 100L * figure, 0);
            judged(2, 100L * figure, 1);
            judged(4, 100000L * figure, 2);
        }
    }

    private static void judgePlace() {
        c.sentence("the place of the first that can not be (or is not so); NONE: none");
        judged(4, 999999999999L, 0);
        judged(4, 999999999L, 1);
        judged(4, 999999L, 2);
        judged(4, 999L, 3);
        judged(4, 441441441441L, NONE);
        judged(4, 441441441431L, 3);
        judged(4, 441441431431L, 2);
        judged(4, 441431431431L, 1);
        judged(4, 431431431431L, 0);
    }

    private static void judgeNumberOutside() {
        c.sentence("n doings (1 to 4) .. OUTSIDE: n");
        int[] outside = {0, 5, -1, 6, Integer.MIN_VALUE, Integer.MAX_VALUE};
        for (int n : outside) {
            judged(n, 0, OUTSIDE);
            judged(n, -1, OUTSIDE);
        }
        for (int n = 1; n <= 4; n++) {
            judged(n, 0, NONE);
        }
    }

    private static void judgeRowOutside() {
        c.sentence("OUTSIDE: row (0 or more, 3 n figures at most)");
        long most = 1;
        for (int n = 1; n <= 4; n++) {
            most *= 1000;
            judged(n, most - 1, 0);
            judged(n, most, OUTSIDE);
            judged(n, -1, OUTSIDE);
            judged(n, Long.MAX_VALUE, OUTSIDE);
            judged(n, Long.MIN_VALUE, OUTSIDE);
            judged(n, 1L << 32, n < 4 ? OUTSIDE : 0);
        }
    }

    private static void judgeSixHouses() {
        c.sentence("JUDGED: n doings, told as three figures each");
        ThirstRow x = Checks.rowOf("T90H900H900H900H900H900H000");
        for (int house = 0; house <= 9; house++) {
            int due = house <= 5 ? NONE : 0;
            c.due("SALTED " + house, x.judge(1, 200 + house), due);
            c.due("AWAY " + house, x.judge(1, 300 + house), due);
            c.due("LACKS 0 " + house, x.judge(1, 400 + house), due);
            c.due("LACKS 9 " + house, x.judge(1, 490 + house), due);
            c.due("SWAPPED 0, " + house, x.judge(1, 100 + house), house == 0 ? 0 : due);
            c.due("SWAPPED " + house + ", 5", x.judge(1, 105 + 10L * house), house == 5 ? 0 : due);
        }
    }

    private static void judgeWithoutHouses() {
        c.sentence("UNKNOWN (there is no such HOUSE)");
        ThirstRow x = new ThirstRow();
        c.due("days", x.judge(4, 0), NONE);
        long[] ofHouses = {100, 101, 200, 300, 400, 490};
        for (long doing : ofHouses) {
            c.due("judge(1, " + doing + ")", x.judge(1, doing), 0);
        }
    }
}

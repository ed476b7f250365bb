import java.math.BigInteger;

/** The promises one by one, with answers worked out by hand from the document. */
public final class PromisesTest {
    /** A plain house, a brewer with a barrel of 2, twins with one of 1; a trough of 4; heats 0 and 2. */
    private static final String THREE = "T40H300H512H221D0D2";
    private static final int UNKNOWN = -1, OUTSIDE = -2, STATE = -3, FULL = -4, NONE = -9;
    private static final int[] WILD = {-1, -2, Integer.MIN_VALUE, Integer.MAX_VALUE, 64, 100};

    private static final Checks c = new Checks();

    public static void main(String[] args) {
        p01NewObject();
        p02Write();
        p03Wipe();
        p04Fault();
        p05Row();
        p06House();
        p07Today();
        p07Kinds();
        p08At();
        p09Day();
        p10Swap();
        p11Salt();
        p12Away();
        p13Undo();
        p13UndoForgets();
        p14Ahead();
        p15Order();
        p16Worst();
        p17Salts();
        p18Cask();
        p19Judge();
        p20See();
        p21Unsee();
        p22Wants();
        p23Share();
        p24Rests();
        p25Guests();
        p26Seed();
        p27Weeks();
        p28Keep();
        p29Again();
        p30Count();
        c.end("PromisesTest");
    }

    private static void p01NewObject() {
        ThirstRow x = new ThirstRow();
        for (int what = 0; what <= 10; what++) {
            c.due("1 count(" + what + ") of a new object", x.count(what), 0);
        }
        c.due("1 at(0)", x.at(0), NONE);
        c.due("1 fault", x.fault(), 0);
        c.due("1 undo", x.undo(), STATE);
        c.due("1 again", x.again(0), STATE);
        c.due("1 seed", x.seed(7L), 0);
    }

    private static void p02Write() {
        ThirstRow x = new ThirstRow();
        c.due("2 write(0)", x.write(0), 1);
        c.due("2 write(255)", x.write(255), 2);
        c.due("2 write(256)", x.write(256), OUTSIDE);
        c.due("2 write(-1)", x.write(-1), OUTSIDE);
        c.due("2 letters", x.count(0), 2);
        for (int i = 3; i <= 40; i++) {
            c.due("2 letter " + i, x.write('H'), i);
        }
        c.due("2 the 41st", x.write('H'), FULL);
        c.due("2 the 41st, and outside", x.write(300), OUTSIDE);
        c.due("2 letters at the end", x.count(0), 40);
    }

    private static void p03Wipe() {
        ThirstRow x = Checks.rowOf(THREE);
        c.due("3 wipe", x.wipe(), 19);
        c.due("3 wipe again", x.wipe(), 0);
        c.due("3 letters", x.count(0), 0);
        c.due("3 the row stays", x.count(1), 3);
        c.due("3 write behind it", x.write('T'), 1);
    }

    private static void p04Fault() {
        fault("", 0);
        fault("T", 1);
        fault("t", 0);
        fault("H", 0);
        fault("T9", 2);
        fault("T:", 1);
        fault("T/", 1);
        fault("T02", 2);
        fault("T0/", 2);
        fault("T00", NONE);
        fault("T91", NONE);
        fault("T000", 3);
        fault("T00h", 3);
        fault("T00T", 3);
        fault("T00H", 4);
        fault("T00H9", 5);
        fault("T00H93", 6);
        fault("T00H939", NONE);
        fault("T00H:", 4);
        fault("T00H94", 5);
        fault("T00H9/", 5);
        fault("T00H93:", 6);
        fault("T00D", 4);
        fault("T00D3", NONE);
        fault("T00D4", 4);
        fault("T00D33", 5);
        fault("T00D3H000D0", NONE);
        fault("T00D0D0D0D0D0", NONE);
        fault("T00D0D0D0D0D0D", 13);
        fault("T00D0D0D0D0D0H", 14);
        fault("T00H000H000H000H000H000H000", NONE);
        fault("T00H000H000H000H000H000H000H", 27);
        fault("T00H000H000H000H000H000H000D", 28);
        fault("T00H000H000H000H000H000H000D0D0D0D0D0", NONE);
        fault("T00H000H000H000H000H000H000D0D0D0D0D0D", 37);
        fault("X00H000H000H000H000H000H000D0D0D0D0D0000", 0);
        ThirstRow x = new ThirstRow();
        Checks.writeAll(x, "T0x");
        c.due("4 the first fault", x.fault(), 2);
        x.write('y');
        c.due("4 the first fault stays", x.fault(), 2);
        c.due("4 nothing is changed", x.count(0), 4);
    }

    private static void fault(String text, int due) {
        c.due("4 fault of '" + text + "'", Checks.faultOf(text), due);
    }

    private static void p05Row() {
        ThirstRow x = new ThirstRow();
        Checks.writeAll(x, THREE);
        c.due("5 not yet a row", x.count(1), 0);
        c.due("5 row", x.row(), 32);
        c.due("5 the text stays", x.count(0), 19);
        x.salt(0);
        x.away(1);
        x.swap(0, 2);
        x.day();
        x.salt(1);
        x.keep(0);
        x.see(2, 1, 5);
        x.seed(77L);
        x.write('H');
        c.due("5 a fault", x.row(), STATE);
        c.due("5 refused, THE DAY stays", x.count(3), 1);
        c.due("5 refused, ACTS stay", x.count(9), 5);
        c.due("5 refused, what was kept stays", x.again(0), 1);
        c.due("5 refused, the barrel stays", x.house(1, 3), 2);
        x.salt(0);
        x.wipe();
        Checks.writeAll(x, "T91H437H001H001");
        c.due("5 row anew", x.row(), 30);
        c.due("5 THE DAY", x.count(3), 0);
        c.due("5 SALTED", x.count(7), 0);
        c.due("5 AWAY", x.count(8), 0);
        c.due("5 LACKED", x.count(6), 0);
        c.due("5 ACTS", x.count(9), 0);
        c.due("5 undo", x.undo(), STATE);
        c.due("5 HEATS", x.count(2), 0);
        c.due("5 what was kept is gone", x.again(0), STATE);
        c.due("5 PLACE", x.house(0, 4), 0);
        c.due("5 no fourth house", x.house(3, 0), UNKNOWN);
        c.due("5 barrels are empty", x.house(1, 3), 0);
        c.due("5 SEEN stays", x.count(10), 1);
        c.due("5 THE SEED stays", x.seed(0L), 77);
        x.wipe();
        Checks.writeAll(x, "T00");
        c.due("5 a row without parts", x.row(), 0);
        c.due("5 no TROUGH for anyone", x.day(), 0);
        x.wipe();
        Checks.writeAll(x, "T71");
        c.due("5 a ring without houses", x.row(), 0);
        c.due("5 a day in it", x.day(), 0);
        c.due("5 an order in it", x.order(true), 0);
    }

    private static void p06House() {
        ThirstRow x = Checks.rowOf("T40H300H512H239D0");
        int[][] due = {{3, 0, 0, 0, 0, 0, 0, 0}, {5, 1, 2, 0, 1, 0, 0, 0}, {2, 3, 9, 0, 2, 0, 0, 0}};
        houses(x, "at first", due);
        x.away(0);
        x.day();
        x.salt(1);
        x.swap(1, 2);
        int[][] then = {{3, 0, 0, 0, 0, 0, 0, 1}, {5, 1, 2, 0, 2, 8, 1, 0}, {2, 3, 9, 6, 1, 0, 0, 0}};
        houses(x, "then", then);
        for (int wild : WILD) {
            c.due("6 house(" + wild + ", 0)", x.house(wild, 0), UNKNOWN);
            c.due("6 house(0, " + wild + ")", x.house(0, wild), OUTSIDE);
            c.due("6 house(" + wild + ", 8)", x.house(wild, 8), UNKNOWN);
        }
        c.due("6 house(3, 0)", x.house(3, 0), UNKNOWN);
        c.due("6 house(0, 8)", x.house(0, 8), OUTSIDE);
    }

    private static void houses(ThirstRow x, String when, int[][] due) {
        for (int house = 0; house < due.length; house++) {
            for (int what = 0; what < due[house].length; what++) {
                c.due("6 house(" + house + ", " + what + ") " + when, x.house(house, what), due[house][what]);
            }
        }
    }

    private static void p07Today() {
        ThirstRow x = Checks.rowOf(THREE);
        todays(x, "at first", new int[][] {{3, 3, 4, 3, 0, 1}, {8, 8, 3, 3, 5, 0}, {4, 4, 8, 4, 0, 3}});
        x.day();
        todays(x, "on a hot day", new int[][] {{5, 5, 4, 4, 1, 0}, {10, 10, 5, 5, 5, 0}, {6, 6, 10, 6, 0, 4}});
        x.day();
        todays(x, "with a barrel", new int[][] {{3, 3, 4, 3, 0, 1}, {8, 8, 3, 3, 5, 0}, {4, 4, 8, 4, 0, 4}});
        x.swap(0, 2);
        todays(x, "swapped", new int[][] {{3, 3, 8, 3, 0, 5}, {8, 8, 4, 4, 4, 0}, {4, 4, 4, 4, 0, 0}});
        for (int wild : WILD) {
            c.due("7 today(" + wild + ", 0)", x.today(wild, 0), UNKNOWN);
            c.due("7 today(0, " + wild + ")", x.today(0, wild), OUTSIDE);
            c.due("7 today(" + wild + ", 6)", x.today(wild, 6), UNKNOWN);
        }
        c.due("7 today(3, 0)", x.today(3, 0), UNKNOWN);
        c.due("7 today(0, 6)", x.today(0, 6), OUTSIDE);
        ThirstRow dry = Checks.rowOf("T50H309D0D3D3");
        dry.day();
        todays(dry, "drawn from a barrel", new int[][] {{6, 6, 5, 6, 0, 0}});
        dry.day();
        todays(dry, "drawn from its rest", new int[][] {{6, 6, 5, 6, 0, 0}});
        dry.salt(0);
        todays(dry, "more than there is", new int[][] {{9, 9, 5, 6, 3, 0}});
    }

    private static void p07Kinds() {
        ThirstRow ring = Checks.rowOf("T41H300H310H320H330D1");
        todays(ring, "in a ring", new int[][] {
            {4, 4, 6, 4, 0, 2}, {7, 7, 4, 4, 3, 0}, {7, 7, 7, 7, 0, 0}, {4, 6, 7, 4, 0, 3}});
        for (int house = 0; house < 4; house++) {
            ring.salt(house);
        }
        todays(ring, "in a ring, salted", new int[][] {
            {7, 7, 9, 7, 0, 2}, {10, 10, 7, 7, 3, 0}, {10, 10, 10, 10, 0, 0}, {7, 9, 10, 7, 0, 3}});
        for (int house = 0; house < 4; house++) {
            ring.away(house);
        }
        todays(ring, "in a ring, away", new int[4][6]);
        ThirstRow away = Checks.rowOf("T70H209H234");
        away.away(0);
        todays(away, "a barrel of one that is away", new int[][] {{0, 0, 7, 0, 0, 0}, {2, 4, 0, 0, 2, 0}});
        away.day();
        todays(away, "it fills", new int[][] {{0, 0, 7, 0, 0, 5}, {2, 4, 0, 0, 2, 0}});
    }

    private static void todays(ThirstRow x, String when, int[][] due) {
        for (int house = 0; house < due.length; house++) {
            for (int what = 0; what < due[house].length; what++) {
                c.due("7 today(" + house + ", " + what + ") " + when, x.today(house, what), due[house][what]);
            }
        }
    }

    private static void p08At() {
        ThirstRow x = Checks.rowOf(THREE);
        ats(x, 0, 1, 2);
        x.swap(0, 2);
        ats(x, 2, 1, 0);
        x.swap(0, 1);
        ats(x, 2, 0, 1);
        c.due("8 at(3)", x.at(3), NONE);
        for (int wild : WILD) {
            c.due("8 at(" + wild + ")", x.at(wild), NONE);
        }
    }

    private static void ats(ThirstRow x, int... houses) {
        for (int place = 0; place < houses.length; place++) {
            c.due("8 at(" + place + ")", x.at(place), houses[place]);
            c.due("8 PLACE of " + houses[place], x.house(houses[place], 4), place);
        }
    }

    private static void p09Day() {
        ThirstRow x = Checks.rowOf(THREE);
        c.due("9 the first day", x.day(), 5);
        c.due("9 a hot day", x.day(), 6);
        c.due("9 the heats begin anew", x.day(), 5);
        c.due("9 THE DAY", x.count(3), 3);
        c.due("9 ACTS", x.count(9), 3);
        c.due("9 LACKED by 0", x.house(0, 5), 1);
        c.due("9 LACKED by 1", x.house(1, 5), 15);
        c.due("9 LACKED by 2", x.house(2, 5), 0);
        c.due("9 in the barrel of 2", x.house(2, 3), 1);
        x.salt(0);
        x.away(2);
        c.due("9 a day with salt", x.day(), 6);
        c.due("9 nobody is SALTED any more", x.count(7), 0);
        c.due("9 who is AWAY stays so", x.count(8), 4);
        c.due("9 a day without houses", new ThirstRow().day(), 0);
    }

    private static void p10Swap() {
        ThirstRow x = Checks.rowOf("T90H205H305H405");
        x.day();
        c.due("10 swap(0, 2)", x.swap(0, 2), 2);
        c.due("10 PLACE of the other", x.house(2, 4), 0);
        c.due("10 the barrel goes along", x.house(0, 3), 5);
        c.due("10 swap(1, 0)", x.swap(1, 0), 2);
        c.due("10 ACTS", x.count(9), 3);
        c.due("10 both are one", x.swap(1, 1), OUTSIDE);
        for (int wild : WILD) {
            c.due("10 swap(" + wild + ", 0)", x.swap(wild, 0), UNKNOWN);
            c.due("10 swap(0, " + wild + ")", x.swap(0, wild), UNKNOWN);
            c.due("10 swap(" + wild + ", " + wild + ")", x.swap(wild, wild), UNKNOWN);
        }
        c.due("10 swap(0, 3)", x.swap(0, 3), UNKNOWN);
        c.due("10 refused, no ACT", x.count(9), 3);
    }

    private static void p11Salt() {
        ThirstRow x = Checks.rowOf(THREE);
        c.due("11 salt(1)", x.salt(1), 11);
        c.due("11 salt(1) again", x.salt(1), STATE);
        c.due("11 SALTED", x.count(7), 2);
        c.due("11 ACTS", x.count(9), 1);
        x.away(2);
        c.due("11 one that is away", x.salt(2), 0);
        c.due("11 SALTED, both", x.count(7), 6);
        x.day();
        c.due("11 on a hot day", x.salt(0), 8);
        c.due("11 salt(3)", x.salt(3), UNKNOWN);
        for (int wild : WILD) {
            c.due("11 salt(" + wild + ")", x.salt(wild), UNKNOWN);
        }
    }

    private static void p12Away() {
        ThirstRow x = Checks.rowOf(THREE);
        c.due("12 away(1)", x.away(1), 1);
        c.due("12 away(2)", x.away(2), 1);
        c.due("12 AWAY", x.count(8), 6);
        c.due("12 WANT", x.today(1, 0), 0);
        c.due("12 away(1) again", x.away(1), 0);
        c.due("12 AWAY then", x.count(8), 4);
        c.due("12 ACTS", x.count(9), 3);
        c.due("12 away(3)", x.away(3), UNKNOWN);
        for (int wild : WILD) {
            c.due("12 away(" + wild + ")", x.away(wild), UNKNOWN);
        }
        c.due("12 refused, no ACT", x.count(9), 3);
    }

    private static void p13Undo() {
        ThirstRow x = Checks.rowOf(THREE);
        x.day();
        x.salt(1);
        x.away(2);
        x.swap(0, 2);
        x.day();
        c.due("13 undo a day", x.undo(), 4);
        c.due("13 THE DAY", x.count(3), 1);
        c.due("13 SALTED again", x.count(7), 2);
        c.due("13 LACKED", x.count(6), 5);
        c.due("13 the barrel", x.house(2, 3), 1);
        c.due("13 undo a swap", x.undo(), 3);
        c.due("13 PLACE", x.house(0, 4), 0);
        c.due("13 undo away", x.undo(), 2);
        c.due("13 AWAY", x.count(8), 0);
        c.due("13 undo salt", x.undo(), 1);
        c.due("13 SALTED", x.count(7), 0);
        c.due("13 undo the first day", x.undo(), 0);
        c.due("13 THE DAY then", x.count(3), 0);
        c.due("13 LACKED then", x.count(6), 0);
        c.due("13 the barrel then", x.house(2, 3), 0);
        c.due("13 none is left", x.undo(), STATE);
    }

    private static void p13UndoForgets() {
        ThirstRow x = Checks.rowOf(THREE);
        for (int i = 0; i < 20; i++) {
            x.day();
            c.due("13 ACTS after " + i, x.count(9), Math.min(14, i + 1));
        }
        for (int left = 13; left >= 7; left--) {
            c.due("13 undo, left " + left, x.undo(), left);
            c.due("13 THE DAY, left " + left, x.count(3), left + 6);
        }
        for (int i = 0; i < 9; i++) {
            x.away(0);
        }
        c.due("13 ACTS, full anew", x.count(9), 14);
        for (int left = 13; left >= 0; left--) {
            c.due("13 undo anew, left " + left, x.undo(), left);
        }
        c.due("13 forgotten", x.undo(), STATE);
        c.due("13 THE DAY stays", x.count(3), 8);
    }

    private static void p14Ahead() {
        ThirstRow x = Checks.rowOf(THREE);
        c.due("14 ahead(0, 0)", x.ahead(0, 0), 0);
        c.due("14 ahead(0, 1)", x.ahead(0, 1), 0);
        c.due("14 ahead(1, 0)", x.ahead(1, 0), 5);
        c.due("14 ahead(2, 0)", x.ahead(2, 0), 11);
        c.due("14 ahead(20, 0)", x.ahead(20, 0), 110);
        c.due("14 ahead(1, 1)", x.ahead(1, 1), 4);
        c.due("14 ahead(2, 1)", x.ahead(2, 1), 8);
        c.due("14 ahead(3, 1)", x.ahead(3, 1), 13);
        c.due("14 THE DAY stays", x.count(3), 0);
        c.due("14 LACKED stays", x.count(6), 0);
        c.due("14 the barrel stays", x.house(2, 3), 0);
        x.day();
        c.due("14 less what is LACKED now", x.ahead(1, 0), 6);
        x.undo();
        x.salt(0);
        c.due("14 salt is for one day", x.ahead(2, 0), 10);
        c.due("14 SALTED stays", x.count(7), 1);
        int[][] outside = {{-1, 0}, {21, 0}, {0, 2}, {0, -1}, {Integer.MIN_VALUE, 0}, {Integer.MAX_VALUE, 1}};
        for (int[] o : outside) {
            c.due("14 ahead(" + o[0] + ", " + o[1] + ")", x.ahead(o[0], o[1]), OUTSIDE);
        }
    }

    private static void p15Order() {
        ThirstRow x = Checks.rowOf(THREE);
        c.due("15 how much", x.order(false), 4);
        c.due("15 the order", x.order(true), 231);
        c.due("15 PLACES stay", x.at(0), 0);
        x.swap(0, 1);
        c.due("15 the same from elsewhere", x.order(true), 231);
        ThirstRow like = Checks.rowOf("T90H100H100H100H100H100H100");
        c.due("15 all alike, how much", like.order(false), 0);
        c.due("15 all alike", like.order(true), 123456);
        like.swap(0, 5);
        c.due("15 all alike, swapped", like.order(true), 123456);
        ThirstRow fall = Checks.rowOf("T90H100H200H300H400H500H600");
        c.due("15 the falling one, how much", fall.order(false), 0);
        c.due("15 the falling one", fall.order(true), 654321);
        ThirstRow turned = Checks.rowOf("T90H300H400H200");
        c.due("15 an order amid the others, how much", turned.order(false), 0);
        c.due("15 an order amid the others", turned.order(true), 213);
        ThirstRow barrel = Checks.rowOf("T50H609H400");
        c.due("15 the barrel is empty, how much", barrel.order(false), 1);
        barrel.away(0);
        barrel.day();
        barrel.away(0);
        barrel.swap(0, 1);
        c.due("15 the barrel goes along, how much", barrel.order(false), 0);
        c.due("15 the barrel goes along", barrel.order(true), 12);
        c.due("15 none, how much", new ThirstRow().order(false), 0);
        c.due("15 none", new ThirstRow().order(true), 0);
    }

    private static void p16Worst() {
        ThirstRow x = Checks.rowOf(THREE);
        c.due("16 how much", x.worst(false), 4);
        c.due("16 the order", x.worst(true), 132);
        c.due("16 PLACES stay", x.at(1), 1);
        ThirstRow fall = Checks.rowOf("T90H100H200H300H400H500H600");
        c.due("16 the falling one, how much", fall.worst(false), 0);
        c.due("16 the falling one", fall.worst(true), 654321);
        c.due("16 none, how much", new ThirstRow().worst(false), 0);
        c.due("16 none", new ThirstRow().worst(true), 0);
    }

    private static void p17Salts() {
        ThirstRow x = Checks.rowOf("T90H500H700H700H810");
        c.due("17 lacks nothing", x.salts(0), 0);
        c.due("17 the one ahead", x.salts(1), 1);
        c.due("17 as much as it wants", x.salts(2), 0);
        c.due("17 just not enough", x.salts(3), NONE);
        c.due("17 nobody is SALTED by it", x.count(7), 0);
        x.salt(1);
        c.due("17 one that is SALTED already", x.salts(1), NONE);
        x.undo();
        x.salt(0);
        c.due("17 by salt that is there", x.salts(1), 0);
        x.undo();
        x.swap(0, 2);
        c.due("17 by PLACES", x.salts(3), NONE);
        c.due("17 the one ahead by PLACES", x.salts(1), 0);
        ThirstRow ring = Checks.rowOf("T01H800H500H600");
        c.due("17 in a ring", ring.salts(0), 4);
        ring.away(2);
        c.due("17 one that is away gives nothing", ring.salts(0), NONE);
        c.due("17 salts(3)", ring.salts(3), UNKNOWN);
        for (int wild : WILD) {
            c.due("17 salts(" + wild + ")", ring.salts(wild), UNKNOWN);
        }
    }

    private static void p18Cask() {
        c.due("18 none is needed", Checks.rowOf("T90H309").cask(0), 0);
        c.due("18 one bucket", Checks.rowOf("T50H300D0D3").cask(0), 1);
        ThirstRow two = Checks.rowOf("T50H300D0D0D3D3");
        c.due("18 two buckets", two.cask(0), 2);
        c.due("18 the BARREL stays", two.house(0, 2), 0);
        ThirstRow full = Checks.rowOf("T50H309D0D3");
        full.day();
        c.due("18 what is in it", full.house(0, 3), 2);
        c.due("18 it is empty at first", full.cask(0), NONE);
        c.due("18 what is in it stays", full.house(0, 3), 2);
        c.due("18 too little is given", Checks.rowOf("T10H209").cask(0), NONE);
        ThirstRow salted = Checks.rowOf("T30H300H300");
        c.due("18 by what is said", salted.cask(1), 0);
        salted.salt(1);
        c.due("18 salted today", salted.cask(1), NONE);
        salted.salt(0);
        c.due("18 both salted today", salted.cask(1), 0);
        ThirstRow nine = Checks.rowOf("T80H500D0D0D0D3D3");
        c.due("18 three less than it gets", nine.cask(0), 0);
        ThirstRow lacked = Checks.rowOf("T50H300D3D0");
        c.due("18 the first day is the hot one", lacked.cask(0), NONE);
        lacked.day();
        c.due("18 has LACKED before", lacked.house(0, 5), 1);
        c.due("18 nothing more from now on", lacked.cask(0), 1);
        ThirstRow large = Checks.rowOf("T40H300D0D0D0D0D3");
        c.due("18 one a day is not enough twice", large.cask(0), 2);
        c.due("18 cask(1)", large.cask(1), UNKNOWN);
        for (int wild : WILD) {
            c.due("18 cask(" + wild + ")", large.cask(wild), UNKNOWN);
        }
    }

    private static void p19Judge() {
        ThirstRow x = Checks.rowOf(THREE);
        long[][] due = {
            {1, 0, NONE}, {1, 1, 0}, {1, 10, 0}, {1, 100, 0}, {1, 101, NONE}, {1, 112, NONE}, {1, 122, 0},
            {1, 103, 0}, {1, 130, 0}, {1, 200, NONE}, {1, 202, NONE}, {1, 203, 0}, {1, 210, 0}, {1, 300, NONE},
            {1, 303, 0}, {1, 310, 0}, {1, 400, NONE}, {1, 441, 0}, {1, 451, NONE}, {1, 493, 0}, {1, 500, 0},
            {1, 999, 0}, {2, 200200, 1}, {2, 200201, NONE}, {3, 200000200L, NONE}, {2, 451, NONE}, {2, 400, 1},
            {2, 410, NONE}, {2, 300300, NONE}, {2, 301401, NONE}, {2, 300471, 1}, {2, 300481, NONE},
            {2, 200421, NONE}, {2, 200411, 1}, {2, 102441, NONE}, {2, 102431, 1}, {4, 999999999999L, 0},
            {4, 451451451441L, 3}, {4, 101101101101L, NONE}, {4, 0, NONE}, {3, 101441999L, 2}};
        for (long[] d : due) {
            c.due("19 judge(" + d[0] + ", " + d[1] + ")", x.judge((int) d[0], d[1]), d[2]);
        }
        c.due("19 THE DAY stays", x.count(3), 0);
        c.due("19 ACTS stay", x.count(9), 0);
        c.due("19 PLACES stay", x.at(0), 0);
        c.due("19 SALTED stays", x.count(7), 0);
        x.salt(0);
        c.due("19 one that is SALTED", x.judge(1, 200L), 0);
        long[][] outside = {{0, 0}, {5, 0}, {-1, 0}, {Integer.MIN_VALUE, 0}, {Integer.MAX_VALUE, 0}, {1, -1}, {1, 1000},
            {2, 1000000}, {3, 1000000000L}, {4, 1000000000000L}, {4, Long.MAX_VALUE}, {4, Long.MIN_VALUE}};
        for (long[] o : outside) {
            c.due("19 judge(" + o[0] + ", " + o[1] + ")", x.judge((int) o[0], o[1]), OUTSIDE);
        }
    }

    private static void p20See() {
        ThirstRow x = Checks.rowOf(THREE);
        c.due("20 see(0, 0, 0)", x.see(0, 0, 0), 1);
        c.due("20 see(2, 3, 30)", x.see(2, 3, 30), 2);
        int[][] refused = {{3, 0, 0, UNKNOWN}, {-1, 9, 99, UNKNOWN}, {0, 4, 0, OUTSIDE}, {0, -1, 0, OUTSIDE},
            {0, 0, 31, OUTSIDE}, {0, 0, -1, OUTSIDE}};
        for (int[] r : refused) {
            c.due("20 see(" + r[0] + ", " + r[1] + ", " + r[2] + ")", x.see(r[0], r[1], r[2]), r[3]);
        }
        c.due("20 SEEN", x.count(10), 2);
        for (int i = 3; i <= 6; i++) {
            c.due("20 the " + i + "th", x.see(1, 1, i), i);
        }
        c.due("20 the 7th", x.see(1, 1, 1), FULL);
        c.due("20 the 7th, outside", x.see(1, 4, 1), OUTSIDE);
        c.due("20 the 7th, unknown", x.see(3, 1, 1), UNKNOWN);
        c.due("20 SEEN then", x.count(10), 6);
    }

    private static void p21Unsee() {
        ThirstRow x = Checks.rowOf(THREE);
        c.due("21 nothing was SEEN", x.unsee(), 0);
        x.see(0, 0, 30);
        x.see(1, 0, 30);
        c.due("21 wants(0)", x.wants(0), 0);
        c.due("21 unsee", x.unsee(), 2);
        c.due("21 SEEN", x.count(10), 0);
        c.due("21 wants(0) then", x.wants(0), 1023);
        c.due("21 see", x.see(0, 0, 3), 1);
        c.due("21 wants(0) at last", x.wants(0), 8);
    }

    private static void p22Wants() {
        ThirstRow x = Checks.rowOf("T00H400H410H420H430");
        for (int house = 0; house < 4; house++) {
            c.due("22 nothing is SEEN of " + house, x.wants(house), 1023);
        }
        x.see(0, 1, 5);
        x.see(1, 0, 9);
        x.see(2, 1, 7);
        x.see(3, 2, 8);
        c.due("22 a PLAIN one", x.wants(0), 1 << 4);
        c.due("22 a BREWER", x.wants(1), 1 << 6);
        c.due("22 TWINS", x.wants(2), 1 << 3);
        c.due("22 a LIAR", x.wants(3), 1 << 4);
        x.see(0, 3, 7);
        c.due("22 twice so", x.wants(0), 1 << 4);
        x.see(2, 2, 7);
        c.due("22 not both", x.wants(2), 0);
        x.salt(0);
        x.away(0);
        c.due("22 salted and away now", x.wants(0), 1 << 4);
        c.due("22 wants(4)", x.wants(4), UNKNOWN);
        for (int wild : WILD) {
            c.due("22 wants(" + wild + ")", x.wants(wild), UNKNOWN);
        }
        x.wipe();
        Checks.writeAll(x, "T00H430");
        x.row();
        c.due("22 by its KIND now", x.wants(0), 1 << 2);
        c.due("22 gone", x.wants(3), UNKNOWN);
        c.due("22 SEEN stays", x.count(10), 6);
    }

    private static void p23Share() {
        ThirstRow x = Checks.rowOf(THREE);
        share(x, 0, 9, 2);
        share(x, 1, 7, 2);
        share(x, 2, 2, 1);
        c.due("23 nobody is AWAY by it", x.count(8), 0);
        x.away(1);
        share(x, 0, 3, 1);
        share(x, 1, 0, 1);
        share(x, 2, 0, 1);
        c.due("23 AWAY stays", x.count(8), 2);
        c.due("23 share(3, true)", x.share(3, true), UNKNOWN);
        c.due("23 share(3, false)", x.share(3, false), UNKNOWN);
        for (int wild : WILD) {
            c.due("23 share(" + wild + ", true)", x.share(wild, true), UNKNOWN);
        }
        ThirstRow ring = Checks.rowOf("T01H400H500");
        share(ring, 0, 4, 1);
        share(ring, 1, 4, 1);
        ThirstRow barrel = Checks.rowOf("T90H309H505");
        barrel.day();
        barrel.swap(0, 1);
        share(barrel, 0, 3, 1);
        share(barrel, 1, 5, 1);
    }

    private static void share(ThirstRow x, int house, int above, int below) {
        c.due("23 share(" + house + ", true)", x.share(house, true), above);
        c.due("23 share(" + house + ", false)", x.share(house, false), below);
    }

    private static void p24Rests() {
        ThirstRow x = Checks.rowOf("T90H500H700");
        rests(x, 0, 1, 2, 10);
        rests(x, 1, 0, 2, 1);
        c.due("24 nobody is SALTED by it", x.count(7), 0);
        ThirstRow ring = Checks.rowOf("T01H500H500");
        rests(ring, 0, 1, 2, 0);
        ring.salt(0);
        rests(ring, 0, 1, 2, 1);
        rests(ring, 1, 0, 2, 10);
        ring.salt(1);
        rests(ring, 0, 1, 4, 0);
        ThirstRow poor = Checks.rowOf("T00H100H900H500");
        rests(poor, 0, 1, 1, 0);
        ThirstRow rich = Checks.rowOf("T90H300H000H400");
        rests(rich, 0, 1, 1, 11);
        rests(rich, 1, 2, 1, 10);
        rich.away(2);
        rests(rich, 1, 2, 1, 11);
        int[][] refused = {{0, 0, 0, OUTSIDE}, {0, 1, 2, OUTSIDE}, {0, 1, -1, OUTSIDE}, {0, 3, 0, UNKNOWN},
            {3, 0, 0, UNKNOWN}, {3, 3, 0, UNKNOWN}, {-1, 0, 5, UNKNOWN}, {0, Integer.MAX_VALUE, 5, UNKNOWN}};
        for (int[] r : refused) {
            c.due("24 rests(" + r[0] + ", " + r[1] + ", " + r[2] + ")", rich.rests(r[0], r[1], r[2]), r[3]);
        }
    }

    private static void rests(ThirstRow x, int one, int other, int howMany, int first) {
        c.due("24 rests(" + one + ", " + other + ", 0)", x.rests(one, other, 0), howMany);
        c.due("24 rests(" + one + ", " + other + ", 1)", x.rests(one, other, 1), first);
    }

    private static void p25Guests() {
        ThirstRow x = Checks.rowOf("T40H400H400");
        guests(x, 0, 3, 1, 1);
        guests(x, 1, 3, 51, 100);
        guests(x, 2, 3, 51, 100);
        guests(x, 3, 3, 0, 1);
        guests(x, 1, 5, 3, 4);
        guests(x, 1, 0, 0, 1);
        guests(x, 1, 10, 1, 1);
        guests(x, 60, 10, 0, 1);
        x.away(0);
        guests(x, 4, 4, 1, 1);
        guests(x, 5, 4, 2, 5);
        c.due("25 nothing is changed", x.today(1, 0), 4);
        guests(Checks.rowOf("T40H430H600"), 1, 5, 3, 4);
        guests(Checks.rowOf("T40H400H600"), 3, 5, 1, 2);
        guests(new ThirstRow(), 0, 0, 1, 1);
        guests(new ThirstRow(), 1, 10, 0, 1);
        int[][] outside = {{-1, 0}, {61, 0}, {0, -1}, {0, 11}, {Integer.MIN_VALUE, 0}, {0, Integer.MAX_VALUE}};
        for (int[] o : outside) {
            c.due("25 guests(" + o[0] + ", " + o[1] + ", true)", x.guests(o[0], o[1], true), OUTSIDE);
            c.due("25 guests(" + o[0] + ", " + o[1] + ", false)", x.guests(o[0], o[1], false), OUTSIDE);
        }
    }

    private static void guests(ThirstRow x, int m, int tenths, int above, int below) {
        c.due("25 guests(" + m + ", " + tenths + ", true)", x.guests(m, tenths, true), above);
        c.due("25 guests(" + m + ", " + tenths + ", false)", x.guests(m, tenths, false), below);
    }

    private static void p26Seed() {
        ThirstRow x = new ThirstRow();
        c.due("26 at first", x.seed(Long.MIN_VALUE), 0);
        c.due("26 then", x.seed(-1L), Long.MIN_VALUE);
        c.due("26 at last", x.seed(5L), -1);
    }

    private static void p27Weeks() {
        weeks(5, 12);
        weeks(5, 17);
        weeks(0, 0);
        weeks(0, 6);
        weeks(4, 0, 12);
        weeks(4, 0, 0, 12);
        weeks(8, 1, 12);
        weeks(8, 6, 12);
        weeks(5, 6, 6, 12);
        weeks(5, 3, 12);
        weeks(5, 5, 12);
        weeks(5, 9, 12);
        weeks(5, 11, 12);
        weeks(4, 7, 12);
        weeks(11, 17, 13);
        weeks(10, 0, 12, 14);
        ThirstRow x = Checks.rowOf(THREE);
        x.seed(3L);
        int[] outside = {0, 31, -1, Integer.MIN_VALUE, Integer.MAX_VALUE};
        for (int m : outside) {
            c.due("27 weeks(" + m + ")", x.weeks(m), OUTSIDE);
        }
        c.due("27 refused, THE SEED stays", x.seed(3L), 3);
        x.seed(seedFor(12));
        c.due("27 the first day", x.weeks(1), 5);
        x.day();
        x.seed(seedFor(12));
        c.due("27 from the day that is now", x.weeks(1), 6);
        x.seed(3L);
        x.weeks(30);
        c.due("27 THE SEED after 30", x.seed(0L), seedAfter(3L, 30));
    }

    /** Chances told one by one, for a seed that makes them so. */
    private static void weeks(int due, int... chances) {
        ThirstRow x = Checks.rowOf(THREE);
        long seed = seedFor(chances);
        String name = "27 weeks by " + java.util.Arrays.toString(chances);
        x.seed(seed);
        c.due(name, x.weeks(chances.length), due);
        c.due(name + ", THE DAY", x.count(3), 0);
        c.due(name + ", SALTED", x.count(7), 0);
        c.due(name + ", AWAY", x.count(8), 0);
        c.due(name + ", ACTS", x.count(9), 0);
        c.due(name + ", THE SEED", x.seed(0L), seedAfter(seed, chances.length));
    }

    private static long seedFor(int... chances) {
        for (long seed = 0; seed < 1000000L; seed++) {
            boolean fits = true;
            for (int i = 0; i < chances.length && fits; i++) {
                long upper31 = seedAfter(seed, i + 1) >>> 33;
                fits = upper31 % 18 == chances[i];
            }
            if (fits) {
                return seed;
            }
        }
        throw new IllegalStateException("no seed for these chances");
    }

    private static long seedAfter(long seed, int times) {
        BigInteger x = BigInteger.valueOf(seed);
        for (int i = 0; i < times; i++) {
            x = x.multiply(new BigInteger("6364136223846793005")).add(new BigInteger("1442695040888963407"));
        }
        return x.longValue();
    }

    private static void p28Keep() {
        ThirstRow x = Checks.rowOf(THREE);
        c.due("28 keep(0)", x.keep(0), 0);
        x.day();
        c.due("28 keep(1)", x.keep(1), 1);
        x.day();
        c.due("28 again(0)", x.again(0), 0);
        c.due("28 again(1)", x.again(1), 1);
        x.day();
        c.due("28 keep(0) anew", x.keep(0), 2);
        c.due("28 no ACT", x.count(9), 1);
        x.day();
        c.due("28 again(0) anew", x.again(0), 2);
        c.due("28 keep(2)", x.keep(2), UNKNOWN);
        for (int wild : WILD) {
            c.due("28 keep(" + wild + ")", x.keep(wild), UNKNOWN);
        }
    }

    private static void p29Again() {
        ThirstRow x = Checks.rowOf(THREE);
        c.due("29 none were kept", x.again(0), STATE);
        x.day();
        x.salt(1);
        x.away(2);
        x.swap(0, 2);
        x.keep(1);
        x.day();
        x.away(0);
        x.swap(0, 1);
        x.salt(2);
        c.due("29 the other slot", x.again(0), STATE);
        c.due("29 refused, ACTS stay", x.count(9), 8);
        c.due("29 again(1)", x.again(1), 1);
        c.due("29 THE DAY", x.count(3), 1);
        c.due("29 SALTED", x.count(7), 2);
        c.due("29 AWAY", x.count(8), 4);
        c.due("29 LACKED", x.count(6), 5);
        c.due("29 the barrel", x.house(2, 3), 1);
        c.due("29 PLACE", x.house(0, 4), 2);
        c.due("29 ACTS", x.count(9), 0);
        c.due("29 undo", x.undo(), STATE);
        x.day();
        c.due("29 again(1) twice", x.again(1), 1);
        c.due("29 again(2)", x.again(2), UNKNOWN);
        for (int wild : WILD) {
            c.due("29 again(" + wild + ")", x.again(wild), UNKNOWN);
        }
    }

    private static void p30Count() {
        ThirstRow x = Checks.rowOf(THREE);
        counts(x, "at first", 19, 3, 2, 0, 0, 5, 0, 0, 0, 0, 0);
        x.day();
        x.salt(2);
        x.away(0);
        x.see(1, 2, 3);
        x.wipe();
        counts(x, "then", 0, 3, 2, 1, 2, 10, 5, 4, 1, 3, 1);
        for (int wild : WILD) {
            c.due("30 count(" + wild + ")", x.count(wild), OUTSIDE);
        }
        c.due("30 count(11)", x.count(11), OUTSIDE);
    }

    private static void counts(ThirstRow x, String when, int... due) {
        for (int what = 0; what < due.length; what++) {
            c.due("30 count(" + what + ") " + when, x.count(what), due[what]);
        }
    }
}

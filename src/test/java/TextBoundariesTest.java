/** The boundary cases of part 1 (THE TEXT, THE ROW, a DAY, ACTS) and of promises 1 to 13, a method for each sentence. */
public final class TextBoundariesTest {
    private static final String FIGURES = "0123456789";
    private static final String SIX_HOUSES = "T00H000H000H000H000H000H000";
    private static final String FIVE_HEATS = "T00D0D0D0D0D0";
    private static final String LONGEST = SIX_HOUSES + "D0D0D0D0D0";
    private static final int UNKNOWN = -1, OUTSIDE = -2, STATE = -3, FULL = -4, NONE = -9;
    private static final int[] FAR = {Integer.MIN_VALUE, Integer.MIN_VALUE + 1, -1, Integer.MAX_VALUE - 1, Integer.MAX_VALUE};

    private static final Checks c = new Checks();

    public static void main(String[] args) {
        lettersOfText();
        lettersOutside();
        fullText();
        wipeOfText();
        troughAndRing();
        partsNoneOrMore();
        atMostHousesAndHeats();
        numberedEachForItself();
        lettersOfHouse();
        lettersOfHeat();
        faultIsTheFirst();
        faultAtTheEnd();
        faultNone();
        atFirst();
        rowMadeAnew();
        rowOfFewer();
        rowAnswers();
        rowRefused();
        rowEmptiesActsAndSlots();
        heatGoesRound();
        heatOfNone();
        wantByKind();
        wantOfOneAway();
        saysOfLiar();
        givenAlongPlaces();
        givenToTheFirst();
        givenInRing();
        drawsNoMoreThanThereIs();
        staysInBarrel();
        dayAtOnce();
        dayEndsSalt();
        dayWithoutHouses();
        swapped();
        swapRefused();
        saltRefused();
        awayOrNotAnyMore();
        actsAtMost();
        actsForgotten();
        actsOfEachKind();
        undoRefused();
        housesUnknown();
        whatsOutside();
        atNone();
        c.end("TextBoundariesTest");
    }

    private static void lettersOfText() {
        c.sentence("A letter (0 to 255) comes behind THE TEXT: how long it is");
        ThirstRow x = new ThirstRow();
        c.due("the least letter", x.write(0), 1);
        c.due("the greatest letter", x.write(255), 2);
        for (int letter = 0; letter <= 255; letter++) {
            c.due("write(" + letter + ")", new ThirstRow().write(letter), 1);
        }
    }

    private static void lettersOutside() {
        c.sentence("A letter (0 to 255) .. OUTSIDE");
        ThirstRow x = new ThirstRow();
        c.due("write(256)", x.write(256), OUTSIDE);
        c.due("write(256 + 'T')", x.write(256 + 'T'), OUTSIDE);
        for (int far : FAR) {
            c.due("write(" + far + ")", x.write(far), OUTSIDE);
        }
        c.due("nothing came", x.count(0), 0);
    }

    private static void fullText() {
        c.sentence("THE TEXT is letters (40 at most) .. FULL: there are 40");
        ThirstRow x = new ThirstRow();
        for (int length = 1; length <= 40; length++) {
            c.due("letter " + length, x.write('T'), length);
        }
        c.due("the 41st", x.write('T'), FULL);
        c.due("how long", x.count(0), 40);
        c.due("wipe", x.wipe(), 40);
        c.due("room again", x.write('T'), 1);
    }

    private static void wipeOfText() {
        c.sentence("THE TEXT is empty: how long it was");
        ThirstRow x = new ThirstRow();
        c.due("of nothing", x.wipe(), 0);
        x.write('T');
        c.due("of one letter", x.wipe(), 1);
        c.due("of nothing again", x.wipe(), 0);
        c.due("letters", x.count(0), 0);
        Checks.writeAll(x, "T00");
        c.due("what was there is not read", x.fault(), NONE);
    }

    /** Of all letters behind a beginning, which ones do not make a FAULT at their place. */
    private static void goOn(String begun, String letters) {
        for (int letter = 0; letter <= 255; letter++) {
            ThirstRow x = new ThirstRow();
            Checks.writeAll(x, begun);
            x.write(letter);
            boolean goesOn = x.fault() != begun.length();
            c.holds("'" + begun + "' and letter " + letter, goesOn == letters.indexOf(letter) >= 0);
        }
    }

    private static void troughAndRing() {
        c.sentence("T, the TROUGH (0 to 9), 1 if it is a RING, 0");
        goOn("", "T");
        goOn("T", FIGURES);
        goOn("T0", "01");
        goOn("T9", "01");
        c.due("a trough of 0", Checks.rowOf("T00H000").today(0, 2), 0);
        c.due("a trough of 9", Checks.rowOf("T90H000").today(0, 2), 9);
        c.due("a ring", Checks.rowOf("T91H000").today(0, 2), 0);
    }

    private static void partsNoneOrMore() {
        c.sentence("then PARTS, none or more");
        goOn("T00", "HD");
        goOn("T91", "HD");
        c.due("none", Checks.faultOf("T00"), NONE);
        c.due("one", Checks.faultOf("T00D0"), NONE);
        c.due("eleven", Checks.faultOf(LONGEST), NONE);
    }

    private static void atMostHousesAndHeats() {
        c.sentence("HOUSES (6 at most), HEATS (5 at most)");
        goOn("T00H000H000H000H000H000", "HD");
        goOn(SIX_HOUSES, "D");
        goOn("T00D0D0D0D0", "HD");
        goOn(FIVE_HEATS, "H");
        goOn(LONGEST, "");
        goOn(FIVE_HEATS + SIX_HOUSES.substring(3), "");
        c.due("six", Checks.rowOf(SIX_HOUSES).count(1), 6);
        c.due("five", Checks.rowOf(FIVE_HEATS).count(2), 5);
    }

    private static void numberedEachForItself() {
        c.sentence("are numbered as they are told, each for itself");
        ThirstRow x = Checks.rowOf("T00D1H101D2H212D3H323");
        for (int house = 0; house < 3; house++) {
            c.due("w of " + house, x.house(house, 0), house + 1);
            c.due("KIND of " + house, x.house(house, 1), house);
            c.due("BARREL of " + house, x.house(house, 2), house + 1);
        }
        for (int heat = 1; heat <= 3; heat++) {
            c.due("HEAT on day " + (heat - 1), x.count(4), heat);
            x.day();
        }
    }

    private static void lettersOfHouse() {
        c.sentence("a HOUSE that wants w (0 to 9), of KIND k: 0 .. 3, with a BARREL of b (0 to 9)");
        goOn("T00H", FIGURES);
        goOn("T00H0", "0123");
        goOn("T00H9", "0123");
        goOn("T00H00", FIGURES);
        goOn("T00H93", FIGURES);
        int[][] edges = {{0, 0, 0}, {9, 3, 9}, {0, 3, 9}, {9, 0, 0}};
        for (int[] edge : edges) {
            String told = "T00H" + edge[0] + edge[1] + edge[2];
            for (int what = 0; what < 3; what++) {
                c.due(told + ", house(0, " + what + ")", Checks.rowOf(told).house(0, what), edge[what]);
            }
        }
    }

    private static void lettersOfHeat() {
        c.sentence("a DAY of HEAT v (0 to 3)");
        goOn("T00D", "0123");
        for (int heat = 0; heat <= 3; heat++) {
            c.due("HEAT", Checks.rowOf("T00D" + heat).count(4), heat);
        }
    }

    private static void faultIsTheFirst() {
        c.sentence("FAULT: the place of the first letter by which THE TEXT can be no ROW, whatever came behind it");
        String[] faults = {"x", "Tx", "T0x", "T00x", "T00Hx", "T00H0x", "T00H00x", "T00H000x", "T00Dx", "T00D0x",
            SIX_HOUSES + "H", FIVE_HEATS + "D", LONGEST + "D", LONGEST + "H"};
        for (String text : faults) {
            c.due("'" + text + "'", Checks.faultOf(text), text.length() - 1);
            c.due("'" + text + "' and what came behind", Checks.faultOf(text + "T00"), text.length() - 1);
        }
        c.due("in a text that is full", Checks.faultOf(LONGEST + "000"), 37);
        c.due("behind all that can be told", Checks.faultOf("T00H000H000H000H000H000D0D0D0D0D0H000Dx"), 37);
        c.due("at its first place", Checks.faultOf("\0" + LONGEST), 0);
    }

    private static void faultAtTheEnd() {
        c.sentence("its length, if it is only not at its end");
        String[] begun = {"", "T", "T0", "T00H", "T00H0", "T00H00", "T00D", "T00H000H", "T00D0D", LONGEST.substring(0, 36)};
        for (String text : begun) {
            c.due("'" + text + "'", Checks.faultOf(text), text.length());
        }
    }

    private static void faultNone() {
        c.sentence("NONE: none");
        String[] rows = {"T00", "T91", "T00H000", "T00D0", SIX_HOUSES, FIVE_HEATS, LONGEST};
        for (String text : rows) {
            c.due("'" + text + "'", Checks.faultOf(text), NONE);
        }
        c.due("NONE", ThirstRow.NONE, -9);
    }

    private static void atFirst() {
        c.sentence("At first there is nothing");
        ThirstRow x = new ThirstRow();
        for (int what = 0; what <= 10; what++) {
            c.due("count(" + what + ")", x.count(what), 0);
        }
        c.due("no house", x.house(0, 0), UNKNOWN);
        c.due("none at a place", x.at(0), NONE);
        c.due("an empty text is not at its end", x.fault(), 0);
        c.due("no row of it", x.row(), STATE);
        c.due("THE SEED", x.seed(1L), 0);
        c.due("slot 0", x.again(0), STATE);
        c.due("slot 1", x.again(1), STATE);
    }

    /** A row of three in which all that can differ from its beginning does so. */
    private static ThirstRow wornRow() {
        ThirstRow x = Checks.rowOf("T70H103H503H203D1D0");
        x.away(2);
        x.day();
        x.swap(0, 2);
        x.salt(1);
        x.keep(0);
        x.keep(1);
        return x;
    }

    private static void rowMadeAnew() {
        c.sentence("HOUSES stand at PLACES 0, 1, .. as they are told, BARRELS are empty, nobody is SALTED, AWAY, "
            + "has LACKED, THE DAY is 0, when THE ROW is made anew");
        ThirstRow x = wornRow();
        c.holds("worn: BARRELS", x.house(0, 3) > 0 && x.house(2, 3) > 0);
        c.holds("worn: the rest", x.count(3) == 1 && x.count(6) > 0 && x.count(7) == 2 && x.count(8) == 4 && x.at(0) == 2);
        c.due("row, of the same text", x.row(), 32);
        for (int house = 0; house < 3; house++) {
            c.due("PLACE", x.house(house, 4), house);
            c.due("at", x.at(house), house);
            c.due("in the BARREL", x.house(house, 3), 0);
            c.due("LACKED", x.house(house, 5), 0);
            c.due("SALTED", x.house(house, 6), 0);
            c.due("AWAY", x.house(house, 7), 0);
        }
        c.due("THE DAY", x.count(3), 0);
        c.due("HEAT", x.count(4), 1);
        c.due("LACKED by all", x.count(6), 0);
        c.due("SALTED by bits", x.count(7), 0);
        c.due("AWAY by bits", x.count(8), 0);
    }

    private static void rowOfFewer() {
        c.sentence("THE TEXT is THE ROW");
        ThirstRow x = Checks.rowOf("T00H000H920H000H920H000H920D3");
        x.count(5);
        x.day();
        x.order(false);
        x.worst(false);
        x.ahead(20, 0);
        x.wipe();
        Checks.writeAll(x, "T20H300");
        x.row();
        c.due("LACK today", x.count(5), 1);
        c.due("a day", x.day(), 1);
        c.due("LACKED", x.count(6), 1);
        c.due("order(false)", x.order(false), 1);
        c.due("order(true)", x.order(true), 1);
        c.due("worst(false)", x.worst(false), 1);
        c.due("ahead(20, 0)", x.ahead(20, 0), 20);
        c.due("ahead(20, 1)", x.ahead(20, 1), 0);
        c.due("share", x.share(0, true), 2);
        c.due("guests", x.guests(4, 10, true), 0);
        c.due("no second one", x.at(1), NONE);
    }

    private static void rowAnswers() {
        c.sentence("THE TEXT is THE ROW .. 10 times HOUSES, and HEATS");
        ThirstRow x = new ThirstRow();
        String[] texts = {"T00", "T00D0", "T00H000", FIVE_HEATS, SIX_HOUSES, LONGEST, "T91"};
        int[] due = {0, 1, 10, 5, 60, 65, 0};
        for (int i = 0; i < texts.length; i++) {
            x.wipe();
            Checks.writeAll(x, texts[i]);
            c.due(texts[i], x.row(), due[i]);
            c.due("THE TEXT stays", x.count(0), texts[i].length());
            c.due("HOUSES", x.count(1), due[i] / 10);
            c.due("HEATS", x.count(2), due[i] % 10);
        }
    }

    private static void rowRefused() {
        c.sentence("STATE: a FAULT");
        String[] texts = {"", "T", "T0", "T00x", "T00H", "T00H00", "T00D", LONGEST + "D0", LONGEST + "000"};
        for (String text : texts) {
            ThirstRow x = wornRow();
            x.wipe();
            Checks.writeAll(x, text);
            c.due("'" + text + "'", x.row(), STATE);
            c.due("HOUSES stay", x.count(1), 3);
            c.due("THE DAY stays", x.count(3), 1);
            c.due("PLACES stay", x.at(0), 2);
            c.due("w stays", x.house(1, 0), 5);
            c.due("the TROUGH stays", x.today(2, 2), 7);
            c.due("ACTS stay", x.count(9), 4);
            c.due("what was kept stays", x.again(1), 1);
        }
    }

    private static void rowEmptiesActsAndSlots() {
        c.sentence("(THE ROW of ACTS is empty, what was kept is gone; SEEN, THE SEED stay)");
        ThirstRow x = wornRow();
        x.see(0, 0, 4);
        x.seed(Long.MIN_VALUE);
        x.row();
        c.due("ACTS", x.count(9), 0);
        c.due("undo", x.undo(), STATE);
        c.due("slot 0", x.again(0), STATE);
        c.due("slot 1", x.again(1), STATE);
        c.due("SEEN", x.count(10), 1);
        c.due("WANTS by it", x.wants(0), 1 << 4);
        c.due("THE SEED", x.seed(0L), Long.MIN_VALUE);
    }

    private static void heatGoesRound() {
        c.sentence("HEAT is that of the DAY which is left of THE DAY by how many are told");
        String[] heats = {"3", "12", "312", "0123", "32103"};
        for (String told : heats) {
            StringBuilder text = new StringBuilder("T00");
            for (int i = 0; i < told.length(); i++) {
                text.append('D').append(told.charAt(i));
            }
            ThirstRow x = Checks.rowOf(text + "H000");
            for (int day = 0; day < 3 * told.length(); day++) {
                int due = told.charAt(day % told.length()) - '0';
                c.due(told + ", HEAT on day " + day, x.count(4), due);
                c.due(told + ", WANT on day " + day, x.today(0, 0), due);
                x.day();
            }
        }
    }

    private static void heatOfNone() {
        c.sentence("(0: there are none)");
        ThirstRow x = Checks.rowOf("T00H500");
        for (int day = 0; day < 3; day++) {
            c.due("HEAT", x.count(4), 0);
            c.due("WANT", x.today(0, 0), 5);
            x.day();
        }
        ThirstRow anew = Checks.rowOf("T00H500D3");
        anew.wipe();
        Checks.writeAll(anew, "T00H500");
        anew.row();
        c.due("none any more", anew.count(4), 0);
    }

    private static void wantByKind() {
        c.sentence("WANT of a HOUSE: w (BREWER: 3 more; TWINS: twice), and HEAT, and 3 more if it is SALTED");
        int[][] byKind = {{0, 9}, {3, 12}, {0, 18}, {0, 9}};
        for (int kind = 0; kind < 4; kind++) {
            for (int most = 0; most < 2; most++) {
                for (int heat = 0; heat <= 3; heat++) {
                    String told = "T00H" + 9 * most + kind + "0D" + heat;
                    ThirstRow x = Checks.rowOf(told);
                    int due = byKind[kind][most] + heat;
                    c.due(told, x.today(0, 0), due);
                    c.due(told + ", salt", x.salt(0), due + 3);
                    c.due(told + ", SALTED", x.today(0, 0), due + 3);
                }
            }
        }
    }

    private static void wantOfOneAway() {
        c.sentence("0 if it is AWAY");
        for (int kind = 0; kind < 4; kind++) {
            ThirstRow x = Checks.rowOf("T00H9" + kind + "0D3");
            x.away(0);
            c.due("WANT of KIND " + kind, x.today(0, 0), 0);
            c.due("salt of KIND " + kind, x.salt(0), 0);
            c.due("WANT, SALTED, of KIND " + kind, x.today(0, 0), 0);
            c.due("it LACKS nothing", x.today(0, 4), 0);
        }
    }

    private static void saysOfLiar() {
        c.sentence("It SAYS what it WANTS; a LIAR 2 more, unless it is AWAY");
        for (int kind = 0; kind < 4; kind++) {
            ThirstRow x = Checks.rowOf("T00H0" + kind + "0");
            int more = kind == 3 ? 2 : 0;
            c.due("KIND " + kind, x.today(0, 1), x.today(0, 0) + more);
            x.salt(0);
            c.due("SALTED, KIND " + kind, x.today(0, 1), x.today(0, 0) + more);
            x.away(0);
            c.due("AWAY, KIND " + kind, x.today(0, 1), 0);
        }
        c.due("a LIAR of 0", Checks.rowOf("T00H030").today(0, 1), 2);
        c.due("a LIAR of 9", Checks.rowOf("T00H930").today(0, 1), 11);
    }

    private static void given(ThirstRow x, int... due) {
        for (int house = 0; house < due.length; house++) {
            c.due("GIVEN to " + house, x.today(house, 2), due[house]);
        }
    }

    private static void givenAlongPlaces() {
        c.sentence("GIVEN to a HOUSE is what the one at the PLACE ahead of its own SAYS");
        ThirstRow x = Checks.rowOf("T00H100H230H300H420H510H600");
        given(x, 0, 1, 4, 3, 8, 8);
        x.swap(0, 5);
        given(x, 8, 6, 4, 3, 8, 0);
        x.away(1);
        given(x, 8, 6, 0, 3, 8, 0);
    }

    private static void givenToTheFirst() {
        c.sentence("to the first one the TROUGH");
        ThirstRow x = Checks.rowOf("T90H100H200");
        given(x, 9, 1);
        x.swap(0, 1);
        given(x, 2, 9);
        x.away(0);
        x.away(1);
        given(x, 0, 9);
    }

    private static void givenInRing() {
        c.sentence("or, in a RING, what the last one SAYS");
        given(Checks.rowOf("T91H430"), 6);
        c.due("one that gives to itself runs over", Checks.rowOf("T91H430").today(0, 5), 2);
        ThirstRow x = Checks.rowOf("T91H100H200H330");
        given(x, 5, 1, 2);
        x.swap(0, 2);
        given(x, 2, 5, 1);
        x.away(0);
        given(x, 2, 5, 0);
        ThirstRow last = Checks.rowOf("T91H430");
        last.away(0);
        given(last, 0);
    }

    private static void today(String told, int draws, int lacks, int runsOver) {
        ThirstRow x = Checks.rowOf(told);
        c.due(told + ", DRAWS", x.today(0, 3), draws);
        c.due(told + ", LACKS", x.today(0, 4), lacks);
        c.due(told + ", RUNS OVER", x.today(0, 5), runsOver);
        c.due(told + ", a day", x.day(), lacks);
        c.due(told + ", in the BARREL", x.house(0, 3), 0);
    }

    private static void drawsNoMoreThanThereIs() {
        c.sentence("It DRAWS what it WANTS, but no more than what is GIVEN and what is in its BARREL together; "
            + "it LACKS the rest of its WANT");
        today("T40H500", 4, 1, 0);
        today("T50H500", 5, 0, 0);
        today("T60H500", 5, 0, 1);
        today("T00H920", 0, 18, 0);
        today("T00H000", 0, 0, 0);
        int[][] due = {{3, 0, 1}, {3, 0, 2}, {3, 0, 3}, {6, 0, 1}, {5, 1, 0}};
        ThirstRow x = Checks.rowOf("T40H303D0D0D0D3D3");
        for (int day = 0; day < due.length; day++) {
            c.due("DRAWS on day " + day, x.today(0, 3), due[day][0]);
            c.due("LACKS on day " + day, x.today(0, 4), due[day][1]);
            x.day();
            c.due("in the BARREL behind day " + day, x.house(0, 3), due[day][2]);
        }
    }

    private static void staysInBarrel() {
        c.sentence("what is left of what is GIVEN, and was in the BARREL, stays in it, as much as it holds; the rest RUNS OVER");
        barrel("T60H500", 1, 0, 1, 0);
        barrel("T60H501", 0, 1, 1, 1);
        barrel("T70H501", 1, 1, 2, 1);
        barrel("T90H009", 0, 9, 9, 9);
        barrel("T90H008", 1, 8, 9, 8);
        barrel("T90H509", 0, 4, 0, 8);
        barrel("T90H909", 0, 0, 0, 0);
        ThirstRow x = Checks.rowOf("T10H009");
        for (int day = 0; day < 9; day++) {
            c.due("nothing RUNS OVER on day " + day, x.today(0, 5), 0);
            x.day();
        }
        c.due("it is full", x.house(0, 3), 9);
        c.due("then it RUNS OVER", x.today(0, 5), 1);
        x.salt(0);
        c.due("and not, if it DRAWS 3", x.today(0, 5), 0);
        x.day();
        c.due("what was in it and is left stays", x.house(0, 3), 7);
    }

    /** What RUNS OVER and stays on the first and on the second day. */
    private static void barrel(String told, int firstOver, int first, int secondOver, int second) {
        ThirstRow x = Checks.rowOf(told);
        c.due(told + ", RUNS OVER", x.today(0, 5), firstOver);
        x.day();
        c.due(told + ", in it", x.house(0, 3), first);
        c.due(told + ", RUNS OVER then", x.today(0, 5), secondOver);
        x.day();
        c.due(told + ", in it then", x.house(0, 3), second);
    }

    private static void dayAtOnce() {
        c.sentence("A DAY goes by: all HOUSES do so at once, by what all SAY; each has LACKED as much more; THE DAY is one more");
        ThirstRow x = Checks.rowOf("T01H209H509H100");
        c.due("the first day", x.day(), 4);
        c.due("LACKED by 0", x.house(0, 5), 1);
        c.due("LACKED by 1", x.house(1, 5), 3);
        c.due("LACKED by 2", x.house(2, 5), 0);
        c.due("THE DAY", x.count(3), 1);
        c.due("the second day", x.day(), 4);
        c.due("LACKED by all", x.count(6), 8);
        c.due("LACKED by 1 as much more", x.house(1, 5), 6);
        c.due("THE DAY then", x.count(3), 2);
    }

    private static void dayEndsSalt() {
        c.sentence("nobody is SALTED any more");
        ThirstRow x = Checks.rowOf("T00H200H300");
        x.salt(0);
        x.away(1);
        c.due("salt counts in that day", x.day(), 5);
        c.due("SALTED", x.count(7), 0);
        c.due("AWAY stays", x.count(8), 2);
        c.due("the next day", x.day(), 2);
        c.due("it can be SALTED again", x.salt(0), 5);
    }

    private static void dayWithoutHouses() {
        c.sentence("A DAY: what all LACKED in it");
        ThirstRow x = new ThirstRow();
        c.due("none", x.day(), 0);
        c.due("THE DAY", x.count(3), 1);
        c.due("ACTS", x.count(9), 1);
        c.due("undo", x.undo(), 0);
        c.due("THE DAY undone", x.count(3), 0);
        ThirstRow worst = Checks.rowOf("T00H000H920H000H920H000H920D3");
        c.due("most", worst.day(), 57);
    }

    private static void swapped() {
        c.sentence("SWAPPED: two HOUSES stand each at the other one's PLACE (BARRELS go along): the PLACE of the one then");
        ThirstRow x = Checks.rowOf("T91H109H100H100H100H100H139");
        x.day();
        x.day();
        c.due("in the BARREL of 0", x.house(0, 3), 4);
        c.due("the ends", x.swap(0, 5), 5);
        c.due("first", x.at(0), 5);
        c.due("last", x.at(5), 0);
        c.due("the BARREL goes along", x.house(0, 3), 4);
        c.due("back by the other", x.swap(5, 0), 5);
        c.due("neighbours", x.swap(2, 3), 3);
        c.due("at 2", x.at(2), 3);
        c.due("at 3", x.at(3), 2);
        c.due("others stay", x.at(1), 1);
        c.due("LACKED does not go by PLACES", x.house(5, 5), 0);
    }

    private static void swapRefused() {
        c.sentence("UNKNOWN: both; OUTSIDE: both are one");
        ThirstRow x = Checks.rowOf("T00H100H200");
        c.due("swap(0, 0)", x.swap(0, 0), OUTSIDE);
        c.due("swap(1, 1)", x.swap(1, 1), OUTSIDE);
        int[] strange = {-1, 2, 5, 6, Integer.MIN_VALUE, Integer.MAX_VALUE};
        for (int s : strange) {
            c.due("swap(" + s + ", 0)", x.swap(s, 0), UNKNOWN);
            c.due("swap(1, " + s + ")", x.swap(1, s), UNKNOWN);
            c.due("swap(" + s + ", " + s + ")", x.swap(s, s), UNKNOWN);
        }
        c.due("no ACT", x.count(9), 0);
        c.due("PLACES stay", x.at(0), 0);
        c.due("of one house", Checks.rowOf("T00H100").swap(0, 0), OUTSIDE);
        c.due("of none", new ThirstRow().swap(0, 0), UNKNOWN);
    }

    private static void saltRefused() {
        c.sentence("SALTED: its WANT then. UNKNOWN; STATE: it is so");
        ThirstRow x = Checks.rowOf("T00H100H200H300H400H500H600");
        for (int house = 0; house < 6; house++) {
            c.due("salt(" + house + ")", x.salt(house), house + 4);
            c.due("salt(" + house + ") again", x.salt(house), STATE);
            c.due("house(.., 6)", x.house(house, 6), 1);
            c.due("bits", x.count(7), (1 << house + 1) - 1);
            c.due("ACTS", x.count(9), house + 1);
        }
        c.due("salt(6)", x.salt(6), UNKNOWN);
        x.away(0);
        c.due("AWAY, and SALTED", x.salt(0), STATE);
        x.undo();
        x.undo();
        c.due("undone, it is not so", x.salt(5), 9);
    }

    private static void awayOrNotAnyMore() {
        c.sentence("AWAY: it is so, or not any more: 1 if it is so then, 0");
        ThirstRow x = Checks.rowOf(SIX_HOUSES);
        for (int house = 0; house < 6; house++) {
            c.due("away(" + house + ")", x.away(house), 1);
            c.due("bits", x.count(8), (1 << house + 1) - 1);
            c.due("house(.., 7)", x.house(house, 7), 1);
        }
        for (int house = 5; house >= 0; house--) {
            c.due("away(" + house + ") again", x.away(house), 0);
            c.due("bits then", x.count(8), (1 << house) - 1);
        }
        c.due("away(6)", x.away(6), UNKNOWN);
        c.due("away(-1)", x.away(-1), UNKNOWN);
    }

    private static void actsAtMost() {
        c.sentence("ACTS are a row (14 at most)");
        ThirstRow x = Checks.rowOf("T00H100");
        for (int i = 1; i <= 14; i++) {
            x.day();
            c.due("ACTS", x.count(9), i);
        }
        for (int left = 13; left >= 0; left--) {
            c.due("undo", x.undo(), left);
            c.due("THE DAY", x.count(3), left);
            c.due("LACKED", x.count(6), left);
        }
        c.due("none is left", x.undo(), STATE);
    }

    private static void actsForgotten() {
        c.sentence("of more the first one is forgotten");
        for (int more = 1; more <= 30; more++) {
            ThirstRow x = Checks.rowOf("T00H100");
            for (int i = 0; i < 14 + more; i++) {
                x.day();
            }
            c.due("ACTS", x.count(9), 14);
            for (int left = 13; left >= 0; left--) {
                c.due("undo", x.undo(), left);
            }
            c.due("THE DAY", x.count(3), more);
            c.due("none is left", x.undo(), STATE);
            c.due("THE DAY stays", x.count(3), more);
        }
        ThirstRow salted = Checks.rowOf("T00H100");
        salted.salt(0);
        for (int i = 0; i < 14; i++) {
            salted.away(0);
        }
        for (int i = 0; i < 15; i++) {
            salted.undo();
        }
        c.due("the forgotten one is not undone", salted.count(7), 1);
    }

    private static void actsOfEachKind() {
        c.sentence("ACTS (DAYS, SWAPPED, SALTED, AWAY) .. the last one can be undone: how many are left");
        ThirstRow x = Checks.rowOf("T90H102H200H300");
        x.day();
        x.swap(0, 2);
        x.salt(1);
        x.away(2);
        x.day();
        c.due("ACTS", x.count(9), 5);
        c.due("undo the day", x.undo(), 4);
        c.due("SALTED as it was", x.count(7), 2);
        c.due("AWAY as it was", x.count(8), 4);
        c.due("undo AWAY", x.undo(), 3);
        c.due("AWAY", x.count(8), 0);
        c.due("undo SALTED", x.undo(), 2);
        c.due("SALTED", x.count(7), 0);
        c.due("undo SWAPPED", x.undo(), 1);
        c.due("PLACE", x.at(0), 0);
        c.due("in the BARREL", x.house(0, 3), 2);
        c.due("undo the first day", x.undo(), 0);
        c.due("in the BARREL at first", x.house(0, 3), 0);
        c.due("LACKED", x.count(6), 0);
        c.due("a new ACT", x.away(0), 1);
        c.due("is one", x.count(9), 1);
    }

    private static void undoRefused() {
        c.sentence("STATE: there is none");
        c.due("of a new object", new ThirstRow().undo(), STATE);
        ThirstRow x = Checks.rowOf("T00H100H200");
        c.due("of a new row", x.undo(), STATE);
        x.salt(4);
        x.swap(1, 1);
        x.away(2);
        c.due("refused calls are no ACTS", x.undo(), STATE);
        x.write('D');
        x.see(0, 0, 0);
        x.seed(5L);
        x.weeks(30);
        x.keep(0);
        c.due("other calls are no ACTS", x.undo(), STATE);
        x.day();
        x.again(0);
        c.due("gone on from a slot", x.undo(), STATE);
        x.day();
        c.due("a day", x.undo(), 0);
        c.due("and no more", x.undo(), STATE);
    }

    private static void housesUnknown() {
        c.sentence("UNKNOWN (there is no such HOUSE)");
        for (int houses = 0; houses <= 6; houses++) {
            ThirstRow x = Checks.rowOf(SIX_HOUSES.substring(0, 3 + 4 * houses));
            for (int house = 0; house < houses; house++) {
                c.holds("there is " + house + " of " + houses, x.house(house, 4) == house && x.today(house, 0) == 0
                    && x.away(house) == 1 && x.salt(house) == 0);
            }
            int[] strange = {houses, houses + 1, 6, 7, 32, 64, -1, -2, Integer.MIN_VALUE, Integer.MAX_VALUE};
            for (int s : strange) {
                c.due("house(" + s + ", 0)", x.house(s, 0), UNKNOWN);
                c.due("today(" + s + ", 0)", x.today(s, 0), UNKNOWN);
                c.due("salt(" + s + ")", x.salt(s), UNKNOWN);
                c.due("away(" + s + ")", x.away(s), UNKNOWN);
            }
        }
    }

    private static void whatsOutside() {
        c.sentence("OUTSIDE (another number is not as told)");
        ThirstRow x = Checks.rowOf("T00H100");
        c.due("house(0, 7)", x.house(0, 7), 0);
        c.due("house(0, 8)", x.house(0, 8), OUTSIDE);
        c.due("today(0, 5)", x.today(0, 5), 0);
        c.due("today(0, 6)", x.today(0, 6), OUTSIDE);
        for (int far : FAR) {
            c.due("house(0, " + far + ")", x.house(0, far), OUTSIDE);
            c.due("today(0, " + far + ")", x.today(0, far), OUTSIDE);
        }
    }

    private static void atNone() {
        c.sentence("The HOUSE at a PLACE; NONE");
        for (int houses = 0; houses <= 6; houses++) {
            ThirstRow x = Checks.rowOf(SIX_HOUSES.substring(0, 3 + 4 * houses));
            for (int place = 0; place < houses; place++) {
                c.due("at(" + place + ")", x.at(place), place);
            }
            for (int place = houses; place <= 8; place++) {
                c.due("at(" + place + ") of " + houses, x.at(place), NONE);
            }
            for (int far : FAR) {
                c.due("at(" + far + ")", x.at(far), NONE);
            }
        }
    }
}

import java.util.Arrays;
import java.util.List;

/** Which of several refusals is told, and that what is refused, or only asked, changes nothing. */
public final class RefusalsTest {
    private static final int UNKNOWN = -1, OUTSIDE = -2, STATE = -3, FULL = -4;
    private static final int LEAST = Integer.MIN_VALUE, MOST = Integer.MAX_VALUE;
    private static final String THREE = "T70H103H503H203D1D0";

    private static final Checks c = new Checks();

    private interface Call {
        long on(ThirstRow x);
    }

    private record Named(String name, Call call, long due) { }

    private enum Setting {
        NEW { ThirstRow make() { return new ThirstRow(); } },
        TOLD { ThirstRow make() { return Checks.rowOf(THREE); } },
        WORN { ThirstRow make() { return worn(); } },
        ALL_FULL { ThirstRow make() { return full(); } };

        abstract ThirstRow make();
    }

    public static void main(String[] args) {
        firstOfSeveral();
        refusedChangesNothing();
        refusedOfNewObject();
        askedChangesNothing();
        weeksChangeTheSeedAlone();
        textChangesNothingElse();
        seenChangesNothingElse();
        keptChangesNothingElse();
        undoneAndGoneOnChangeNothingElse();
        constants();
        c.end("RefusalsTest");
    }

    /** Acts of each kind, houses SALTED and AWAY, one slot kept, something SEEN, a SEED. */
    private static ThirstRow worn() {
        ThirstRow x = Checks.rowOf(THREE);
        x.away(2);
        x.day();
        x.swap(0, 2);
        x.keep(1);
        x.day();
        x.away(2);
        x.swap(1, 2);
        x.salt(1);
        x.see(0, 1, 3);
        x.see(2, 0, 2);
        x.seed(99L);
        return x;
    }

    /** The same with 40 letters, 6 SEEN, 14 ACTS, both SLOTS kept, all SALTED. */
    private static ThirstRow full() {
        ThirstRow x = worn();
        while (x.count(0) < 40) {
            x.write('x');
        }
        x.keep(0);
        while (x.count(9) < 12) {
            x.day();
        }
        for (int house = 0; house < 3; house++) {
            x.salt(house);
        }
        while (x.count(10) < 6) {
            x.see(1, 0, 6);
        }
        return x;
    }

    /** All that later calls can tell of an object, as answers in a row; the object is used up by it. */
    private static long[] unfolded(ThirstRow x) {
        long[] answers = new long[512];
        int count = 0;
        count = look(x, answers, count);
        answers[count++] = x.fault();
        answers[count++] = x.seed(0L);
        for (int i = 0; i < 15; i++) {
            answers[count++] = x.undo();
            count = glance(x, answers, count);
        }
        for (int slot = 0; slot < 2; slot++) {
            answers[count++] = x.again(slot);
            count = glance(x, answers, count);
        }
        answers[count++] = x.row();
        count = look(x, answers, count);
        answers[count++] = x.unsee();
        answers[count++] = x.wipe();
        return Arrays.copyOf(answers, count);
    }

    private static int look(ThirstRow x, long[] answers, int from) {
        int count = from;
        for (int what = 0; what <= 10; what++) {
            answers[count++] = x.count(what);
        }
        for (int house = 0; house < 3; house++) {
            for (int what = 0; what <= 7; what++) {
                answers[count++] = x.house(house, what);
            }
            answers[count++] = x.today(house, 2);
            answers[count++] = x.today(house, 4);
            answers[count++] = x.wants(house);
            answers[count++] = x.at(house);
        }
        return count;
    }

    private static int glance(ThirstRow x, long[] answers, int from) {
        int count = from;
        int[] counts = {3, 7, 8, 9};
        for (int what : counts) {
            answers[count++] = x.count(what);
        }
        for (int house = 0; house < 3; house++) {
            for (int what = 3; what <= 5; what++) {
                answers[count++] = x.house(house, what);
            }
        }
        return count;
    }

    private static void changesNothing(Setting setting, String name, Call call) {
        ThirstRow x = setting.make();
        call.on(x);
        c.holds(setting + ": " + name + " changes nothing", Arrays.equals(unfolded(x), unfolded(setting.make())));
    }

    private static Named refused(String name, Call call, long due) {
        return new Named(name, call, due);
    }

    private static void firstOfSeveral() {
        c.sentence("REFUSALS, of several the first that a call names");
        List<Named> calls = List.of(
            refused("write(256), full", x -> x.write(256), OUTSIDE),
            refused("write(-1), full", x -> x.write(-1), OUTSIDE),
            refused("write(0), full", x -> x.write(0), FULL),
            refused("house(3, 8)", x -> x.house(3, 8), UNKNOWN),
            refused("house(-1, -1)", x -> x.house(-1, -1), UNKNOWN),
            refused("today(3, 6)", x -> x.today(3, 6), UNKNOWN),
            refused("today(-1, -1)", x -> x.today(-1, -1), UNKNOWN),
            refused("swap(3, 3)", x -> x.swap(3, 3), UNKNOWN),
            refused("swap(-1, -1)", x -> x.swap(-1, -1), UNKNOWN),
            refused("swap(2, 2)", x -> x.swap(2, 2), OUTSIDE),
            refused("salt(3)", x -> x.salt(3), UNKNOWN),
            refused("salt(2), SALTED", x -> x.salt(2), STATE),
            refused("see(3, 4, 31), full", x -> x.see(3, 4, 31), UNKNOWN),
            refused("see(3, 0, 0), full", x -> x.see(3, 0, 0), UNKNOWN),
            refused("see(0, 4, 0), full", x -> x.see(0, 4, 0), OUTSIDE),
            refused("see(0, 0, 31), full", x -> x.see(0, 0, 31), OUTSIDE),
            refused("see(0, 0, 0), full", x -> x.see(0, 0, 0), FULL),
            refused("rests(3, 3, 2)", x -> x.rests(3, 3, 2), UNKNOWN),
            refused("rests(0, 3, 2)", x -> x.rests(0, 3, 2), UNKNOWN),
            refused("rests(3, 0, -1)", x -> x.rests(3, 0, -1), UNKNOWN),
            refused("rests(0, 0, 2)", x -> x.rests(0, 0, 2), OUTSIDE));
        for (Named n : calls) {
            c.due(n.name(), n.call().on(full()), n.due());
        }
        c.due("again(2), none kept", Checks.rowOf(THREE).again(2), UNKNOWN);
    }

    private static List<Named> refusals() {
        return List.of(
            refused("write(-1)", x -> x.write(-1), OUTSIDE),
            refused("write(256)", x -> x.write(256), OUTSIDE),
            refused("write('T')", x -> x.write('T'), FULL),
            refused("row()", x -> x.row(), STATE),
            refused("house(3, 0)", x -> x.house(3, 0), UNKNOWN),
            refused("house(0, 8)", x -> x.house(0, 8), OUTSIDE),
            refused("today(3, 0)", x -> x.today(3, 0), UNKNOWN),
            refused("today(0, 6)", x -> x.today(0, 6), OUTSIDE),
            refused("swap(3, 0)", x -> x.swap(3, 0), UNKNOWN),
            refused("swap(0, 3)", x -> x.swap(0, 3), UNKNOWN),
            refused("swap(1, 1)", x -> x.swap(1, 1), OUTSIDE),
            refused("salt(3)", x -> x.salt(3), UNKNOWN),
            refused("salt(1)", x -> x.salt(1), STATE),
            refused("away(3)", x -> x.away(3), UNKNOWN),
            refused("away(-1)", x -> x.away(-1), UNKNOWN),
            refused("ahead(21, 0)", x -> x.ahead(21, 0), OUTSIDE),
            refused("ahead(0, 2)", x -> x.ahead(0, 2), OUTSIDE),
            refused("salts(3)", x -> x.salts(3), UNKNOWN),
            refused("cask(3)", x -> x.cask(3), UNKNOWN),
            refused("judge(0, 0)", x -> x.judge(0, 0L), OUTSIDE),
            refused("judge(1, 1000)", x -> x.judge(1, 1000L), OUTSIDE),
            refused("judge(1, -1)", x -> x.judge(1, -1L), OUTSIDE),
            refused("see(3, 0, 0)", x -> x.see(3, 0, 0), UNKNOWN),
            refused("see(0, 4, 0)", x -> x.see(0, 4, 0), OUTSIDE),
            refused("see(0, 0, 31)", x -> x.see(0, 0, 31), OUTSIDE),
            refused("see(0, 0, 0)", x -> x.see(0, 0, 0), FULL),
            refused("wants(3)", x -> x.wants(3), UNKNOWN),
            refused("share(3, true)", x -> x.share(3, true), UNKNOWN),
            refused("rests(3, 0, 0)", x -> x.rests(3, 0, 0), UNKNOWN),
            refused("rests(0, 0, 0)", x -> x.rests(0, 0, 0), OUTSIDE),
            refused("rests(0, 1, 2)", x -> x.rests(0, 1, 2), OUTSIDE),
            refused("guests(61, 0, true)", x -> x.guests(61, 0, true), OUTSIDE),
            refused("guests(0, 11, true)", x -> x.guests(0, 11, true), OUTSIDE),
            refused("weeks(0)", x -> x.weeks(0), OUTSIDE),
            refused("weeks(31)", x -> x.weeks(31), OUTSIDE),
            refused("keep(2)", x -> x.keep(2), UNKNOWN),
            refused("keep(-1)", x -> x.keep(-1), UNKNOWN),
            refused("again(2)", x -> x.again(2), UNKNOWN),
            refused("count(11)", x -> x.count(11), OUTSIDE));
    }

    private static void refusedChangesNothing() {
        c.sentence("What is refused changes nothing");
        for (Named n : refusals()) {
            c.due(n.name(), n.call().on(full()), n.due());
            changesNothing(Setting.ALL_FULL, n.name(), n.call());
        }
        c.due("again(0), none kept there", worn().again(0), STATE);
        changesNothing(Setting.WORN, "again(0)", x -> x.again(0));
        c.due("undo(), no ACT", Checks.rowOf(THREE).undo(), STATE);
        changesNothing(Setting.TOLD, "undo()", x -> x.undo());
    }

    private static void refusedOfNewObject() {
        c.sentence("No houses");
        List<Named> calls = List.of(
            refused("row()", x -> x.row(), STATE),
            refused("house(0, 0)", x -> x.house(0, 0), UNKNOWN),
            refused("today(0, 0)", x -> x.today(0, 0), UNKNOWN),
            refused("swap(0, 1)", x -> x.swap(0, 1), UNKNOWN),
            refused("salt(0)", x -> x.salt(0), UNKNOWN),
            refused("away(0)", x -> x.away(0), UNKNOWN),
            refused("undo()", x -> x.undo(), STATE),
            refused("salts(0)", x -> x.salts(0), UNKNOWN),
            refused("cask(0)", x -> x.cask(0), UNKNOWN),
            refused("see(0, 0, 0)", x -> x.see(0, 0, 0), UNKNOWN),
            refused("wants(0)", x -> x.wants(0), UNKNOWN),
            refused("share(0, true)", x -> x.share(0, true), UNKNOWN),
            refused("share(0, false)", x -> x.share(0, false), UNKNOWN),
            refused("rests(0, 1, 0)", x -> x.rests(0, 1, 0), UNKNOWN),
            refused("again(0)", x -> x.again(0), STATE),
            refused("again(1)", x -> x.again(1), STATE));
        for (Named n : calls) {
            c.due(n.name(), n.call().on(new ThirstRow()), n.due());
            changesNothing(Setting.NEW, n.name(), n.call());
        }
    }

    /** Every call that only asks, with numbers that are taken and with such as are not, in every setting. */
    private static void askedChangesNothing() {
        c.sentence("In what follows nothing is changed");
        int[] numbers = {LEAST, -1, 0, 1, 2, 3, 4, 10, 20, 60, MOST};
        for (Setting setting : Setting.values()) {
            changesNothing(setting, "fault()", x -> x.fault());
            changesNothing(setting, "order", x -> x.order(true) + x.order(false));
            changesNothing(setting, "worst", x -> x.worst(true) + x.worst(false));
            for (int a : numbers) {
                changesNothing(setting, "at, count, salts, cask, wants, share of " + a, x -> x.at(a) + x.count(a) + x.salts(a)
                    + x.cask(a) + x.wants(a) + x.share(a, true) + x.share(a, false));
                for (int b : numbers) {
                    changesNothing(setting, "house, today, ahead, guests, rests, judge of " + a + ", " + b, x -> x.house(a, b)
                        + x.today(a, b) + x.ahead(a, b) + x.guests(a, b, true) + x.guests(a, b, false)
                        + x.rests(a, b, 0) + x.rests(a, b, 1) + x.judge(a, b) + x.judge(4, 101200302000L + a % 10));
                }
            }
        }
    }

    private static void weeksChangeTheSeedAlone() {
        c.sentence("(Nothing changes but THE SEED.)");
        for (Setting setting : Setting.values()) {
            for (int m = 1; m <= 30; m++) {
                int times = m;
                changesNothing(setting, "weeks(" + m + "), THE SEED put back", x -> {
                    long before = x.seed(7L * times);
                    x.weeks(times);
                    return x.seed(before);
                });
            }
            changesNothing(setting, "seed, put back", x -> x.seed(x.seed(Long.MIN_VALUE)));
        }
    }

    private static void textChangesNothingElse() {
        c.sentence("THE TEXT is empty");
        ThirstRow x = worn();
        x.wipe();
        Checks.writeAll(x, THREE);
        c.holds("wiped and written again", Arrays.equals(unfolded(x), unfolded(worn())));
    }

    private static void seenChangesNothingElse() {
        c.sentence("Nothing is SEEN");
        ThirstRow x = worn();
        x.see(1, 3, 30);
        x.unsee();
        x.see(0, 1, 3);
        x.see(2, 0, 2);
        c.holds("unseen and SEEN again", Arrays.equals(unfolded(x), unfolded(worn())));
    }

    private static void keptChangesNothingElse() {
        c.sentence("They are kept");
        ThirstRow x = worn();
        x.keep(0);
        ThirstRow y = worn();
        for (int i = 0; i < 9; i++) {
            c.due("undo", x.undo(), y.undo());
            c.due("THE DAY", x.count(3), y.count(3));
        }
        c.due("what was kept is not undone", x.again(0), 2);
        c.due("the other one is not undone", x.again(1), 1);
    }

    private static void undoneAndGoneOnChangeNothingElse() {
        c.sentence("The last ACT is undone .. They are as they were kept");
        ThirstRow x = Checks.rowOf(THREE);
        x.keep(0);
        x.day();
        x.keep(1);
        x.salt(0);
        x.write('x');
        x.see(0, 0, 4);
        x.seed(5L);
        c.due("undo", x.undo(), 1);
        othersStay(x, "undone");
        c.due("slot 1 stays", x.again(1), 1);
        othersStay(x, "gone on");
        c.due("slot 0 stays", x.again(0), 0);
        c.due("slot 1 stays behind the other", x.again(1), 1);
        c.due("HOUSES stay", x.count(1), 3);
    }

    private static void othersStay(ThirstRow x, String when) {
        c.due(when + ", letters", x.count(0), THREE.length() + 1);
        c.due(when + ", FAULT", x.fault(), THREE.length());
        c.due(when + ", SEEN", x.count(10), 1);
        c.due(when + ", WANTS", x.wants(0), 1 << 4);
        c.due(when + ", THE SEED", x.seed(5L), 5);
    }

    private static void constants() {
        c.sentence("UNKNOWN = -1, OUTSIDE = -2, STATE = -3, FULL = -4, NONE = -9");
        c.due("UNKNOWN", ThirstRow.UNKNOWN, -1);
        c.due("OUTSIDE", ThirstRow.OUTSIDE, -2);
        c.due("STATE", ThirstRow.STATE, -3);
        c.due("FULL", ThirstRow.FULL, -4);
        c.due("NONE", ThirstRow.NONE, -9);
    }
}

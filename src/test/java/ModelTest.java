import java.util.ArrayList;
import java.util.List;
import java.util.Random;

/** Runs of calls drawn by a fixed seed, answered by the class and by the model. */
public final class ModelTest {
    private static final int RUNS = 600;
    private static final int CALLS = 512;
    private static final int KINDS_OF_CALLS = 30;
    private static final int[] WILD = {-1, -2, 6, 7, 11, 31, 32, 61, 256, Integer.MIN_VALUE, Integer.MAX_VALUE};

    private final Random random;
    private final ThirstRow x = new ThirstRow();
    private final Model model = new Model();
    private final List<String> told = new ArrayList<>();
    private final Checks checks;

    private ModelTest(long seed, Checks checks) {
        this.random = new Random(seed);
        this.checks = checks;
    }

    public static void main(String[] args) {
        Checks checks = new Checks();
        for (int run = 0; run < RUNS && checks.wrong() == 0; run++) {
            new ModelTest(run, checks).play(run);
        }
        checks.end("ModelTest");
    }

    private void play(int run) {
        while (told.size() < CALLS && checks.wrong() == 0) {
            if (told.isEmpty() || random.nextInt(70) == 0) {
                tell();
            } else {
                call(random.nextInt(KINDS_OF_CALLS));
            }
        }
        if (checks.wrong() != 0) {
            System.out.println("run " + run + ": " + told);
        }
    }

    /** A ROW, mostly without a fault. */
    private void tell() {
        StringBuilder text = new StringBuilder("T").append(random.nextInt(10)).append(random.nextInt(2));
        int houses = random.nextInt(8) == 0 ? random.nextInt(8) : 1 + random.nextInt(6);
        int heats = random.nextInt(8) == 0 ? random.nextInt(7) : random.nextInt(6);
        while (houses + heats > 0) {
            if (random.nextInt(houses + heats) < houses) {
                text.append('H').append(random.nextInt(10)).append(random.nextInt(4)).append(random.nextInt(10));
                houses--;
            } else {
                text.append('D').append(random.nextInt(4));
                heats--;
            }
        }
        if (random.nextInt(6) == 0) {
            text.setCharAt(random.nextInt(text.length()), "THD0123459x/:".charAt(random.nextInt(13)));
        }
        if (random.nextInt(8) == 0) {
            text.setLength(random.nextInt(text.length() + 1));
        }
        call(1);
        for (int i = 0; i < text.length(); i++) {
            same("write(" + (int) text.charAt(i) + ")", x.write(text.charAt(i)), model.write(text.charAt(i)));
        }
        call(2);
        call(3);
    }

    private int house() {
        return random.nextInt(12) == 0 ? wild() : random.nextInt(6);
    }

    private int wild() {
        return WILD[random.nextInt(WILD.length)];
    }

    private int number(int most) {
        return random.nextInt(12) == 0 ? wild() : random.nextInt(most + 2);
    }

    private long doings(int n) {
        if (random.nextInt(12) == 0) {
            return random.nextLong() >> random.nextInt(64);
        }
        long row = 0;
        for (int i = 0; i < n; i++) {
            int kind = random.nextInt(5);
            boolean middle = kind == 1 || kind == 4 || random.nextInt(9) == 0;
            boolean last = kind != 0 || random.nextInt(9) == 0;
            row = row * 1000 + 100L * kind + (middle ? 10L * random.nextInt(kind == 4 ? 10 : 6) : 0)
                + (last ? random.nextInt(6) : 0);
        }
        return row;
    }

    private void call(int kind) {
        int a = house();
        int b = house();
        boolean flag = random.nextBoolean();
        switch (kind) {
            case 0 -> { int l = number(300); same("write(" + l + ")", x.write(l), model.write(l)); }
            case 1 -> same("wipe()", x.wipe(), model.wipe());
            case 2 -> same("fault()", x.fault(), model.fault());
            case 3 -> { if (random.nextInt(4) == 0 || told.size() < 60) same("row()", x.row(), model.row()); }
            case 4 -> { int w = number(7); same("house(" + a + ", " + w + ")", x.house(a, w), model.house(a, w)); }
            case 5 -> { int w = number(5); same("today(" + a + ", " + w + ")", x.today(a, w), model.today(a, w)); }
            case 6 -> same("at(" + a + ")", x.at(a), model.at(a));
            case 7 -> same("day()", x.day(), model.day());
            case 8 -> same("swap(" + a + ", " + b + ")", x.swap(a, b), model.swap(a, b));
            case 9 -> same("salt(" + a + ")", x.salt(a), model.salt(a));
            case 10 -> same("away(" + a + ")", x.away(a), model.away(a));
            case 11 -> same("undo()", x.undo(), model.undo());
            case 12 -> { int n = number(20), w = number(1);
                same("ahead(" + n + ", " + w + ")", x.ahead(n, w), model.ahead(n, w)); }
            case 13 -> same("order(" + flag + ")", x.order(flag), model.order(flag));
            case 14 -> same("worst(" + flag + ")", x.worst(flag), model.worst(flag));
            case 15 -> same("salts(" + a + ")", x.salts(a), model.salts(a));
            case 16 -> same("cask(" + a + ")", x.cask(a), model.cask(a));
            case 17 -> { int n = random.nextInt(6); long r = doings(n);
                same("judge(" + n + ", " + r + ")", x.judge(n, r), model.judge(n, r)); }
            case 18 -> { int t = number(3), v = number(random.nextBoolean() ? 30 : 14);
                same("see(" + a + ", " + t + ", " + v + ")", x.see(a, t, v), model.see(a, t, v)); }
            case 19 -> { if (random.nextInt(4) == 0) same("unsee()", x.unsee(), model.unsee()); }
            case 20 -> same("wants(" + a + ")", x.wants(a), model.wants(a));
            case 21 -> share(a, flag);
            case 22 -> { int w = number(1); same("rests(" + a + ", " + b + ", " + w + ")", x.rests(a, b, w), model.rests(a, b, w)); }
            case 23 -> { int m = number(random.nextBoolean() ? 60 : 20), t = number(10);
                same("guests(" + m + ", " + t + ", " + flag + ")", x.guests(m, t, flag), model.guests(m, t, flag)); }
            case 24 -> { long v = random.nextLong(); same("seed(" + v + ")", x.seed(v), model.seed(v)); }
            case 25 -> { int m = number(30); same("weeks(" + m + ")", x.weeks(m), model.weeks(m)); }
            case 26 -> { int s = number(1); same("keep(" + s + ")", x.keep(s), model.keep(s)); }
            case 27 -> { int s = number(1); same("again(" + s + ")", x.again(s), model.again(s)); }
            default -> { int w = number(10); same("count(" + w + ")", x.count(w), model.count(w)); }
        }
    }

    /** The model tries all orders one by one, which is slow: now and then is enough. */
    private void share(int house, boolean upper) {
        if (model.count(1) < 5 || random.nextInt(4) == 0) {
            same("share(" + house + ", " + upper + ")", x.share(house, upper), model.share(house, upper));
        }
    }

    private void same(String call, long got, long want) {
        told.add(call);
        checks.due(call, got, want);
    }
}

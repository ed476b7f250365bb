import java.math.BigInteger;
import java.util.ArrayDeque;
import java.util.ArrayList;
import java.util.Collections;
import java.util.Deque;
import java.util.List;
import java.util.Map;
import java.util.TreeMap;
import java.util.TreeSet;
import java.util.regex.Pattern;

/**
 * The document once more, written as slowly and literally as can be, with a new standing for every change;
 * it shares nothing with the class, so that the two can be held against one another.
 */
final class Model {
    static final int UNKNOWN = -1, OUTSIDE = -2, STATE = -3, FULL = -4, NONE = -9;
    private static final Pattern ROW = Pattern.compile("T[0-9][01](H[0-9][0-3][0-9]|D[0-3])*");
    private static final String[] ENDINGS = {"", "0", "00", "000", "T00"};

    /** A HOUSE as told. */
    private record House(int w, int kind, int barrel) { }

    /** What is SEEN. */
    private record Sight(int house, int heat, int said) { }

    /** What days and acts change. */
    private record Snap(List<Integer> order, List<Integer> stored, List<Integer> lacked,
                        TreeSet<Integer> salted, TreeSet<Integer> away, int day) {
        Snap with(TreeSet<Integer> newSalted, TreeSet<Integer> newAway) {
            return new Snap(order, stored, lacked, newSalted, newAway, day);
        }

        Snap standing(List<Integer> newOrder) {
            return new Snap(newOrder, stored, lacked, salted, away, day);
        }
    }

    private String text = "";
    private int trough = 0;
    private boolean ring = false;
    private List<House> houses = new ArrayList<>();
    private List<Integer> heats = new ArrayList<>();
    private Snap now = fresh(0);
    private final Deque<Snap> acts = new ArrayDeque<>();
    private final Map<Integer, Snap> kept = new TreeMap<>();
    private final List<Sight> seen = new ArrayList<>();
    private BigInteger seed = BigInteger.ZERO;

    private static Snap fresh(int n) {
        List<Integer> order = new ArrayList<>();
        for (int i = 0; i < n; i++) {
            order.add(i);
        }
        List<Integer> nothing = Collections.nCopies(n, 0);
        return new Snap(order, nothing, nothing, new TreeSet<>(), new TreeSet<>(), 0);
    }

    private static boolean isRow(String t) {
        return ROW.matcher(t).matches() && t.chars().filter(ch -> ch == 'H').count() <= 6
            && t.chars().filter(ch -> ch == 'D').count() <= 5;
    }

    private static boolean canBecomeRow(String t) {
        for (String ending : ENDINGS) {
            if (isRow(t + ending)) {
                return true;
            }
        }
        return false;
    }

    private boolean known(int house) {
        return house >= 0 && house < houses.size();
    }

    int write(int letter) {
        if (letter < 0 || letter > 255) return OUTSIDE;
        if (text.length() == 40) return FULL;
        text = text + (char) letter;
        return text.length();
    }

    int wipe() {
        int length = text.length();
        text = "";
        return length;
    }

    int fault() {
        for (int i = 1; i <= text.length(); i++) {
            if (!canBecomeRow(text.substring(0, i))) return i - 1;
        }
        return isRow(text) ? NONE : text.length();
    }

    int row() {
        if (!isRow(text)) return STATE;
        trough = text.charAt(1) - '0';
        ring = text.charAt(2) == '1';
        houses = new ArrayList<>();
        heats = new ArrayList<>();
        for (int i = 3; i < text.length(); i++) {
            if (text.charAt(i) == 'H') {
                houses.add(new House(text.charAt(i + 1) - '0', text.charAt(i + 2) - '0', text.charAt(i + 3) - '0'));
            } else if (text.charAt(i) == 'D') {
                heats.add(text.charAt(i + 1) - '0');
            }
        }
        now = fresh(houses.size());
        acts.clear();
        kept.clear();
        return 10 * houses.size() + heats.size();
    }

    int house(int h, int what) {
        if (!known(h)) return UNKNOWN;
        if (what < 0 || what > 7) return OUTSIDE;
        return new int[] {houses.get(h).w(), houses.get(h).kind(), houses.get(h).barrel(), now.stored().get(h),
            now.order().indexOf(h), now.lacked().get(h), now.salted().contains(h) ? 1 : 0,
            now.away().contains(h) ? 1 : 0}[what];
    }

    private int heat(int day) {
        return heats.isEmpty() ? 0 : heats.get(day % heats.size());
    }

    private int want(Snap s, int h, TreeSet<Integer> guests) {
        if (s.away().contains(h)) return 0;
        int w = houses.get(h).w();
        int kind = houses.get(h).kind();
        int base = kind == 1 ? w + 3 : kind == 2 ? w + w : w;
        return base + heat(s.day()) + (s.salted().contains(h) ? 3 : 0) + (guests.contains(h) ? 2 : 0);
    }

    private int says(Snap s, int h, TreeSet<Integer> guests) {
        boolean lies = houses.get(h).kind() == 3 && !s.away().contains(h);
        return want(s, h, guests) + (lies ? 2 : 0);
    }

    private int given(Snap s, int h, TreeSet<Integer> guests) {
        int place = s.order().indexOf(h);
        if (place > 0) return says(s, s.order().get(place - 1), guests);
        return ring ? says(s, s.order().get(s.order().size() - 1), guests) : trough;
    }

    /** WANT, SAYS, GIVEN, DRAWS, LACKS, RUNS OVER, and what stays in the barrel. */
    private int[] facts(Snap s, int h, TreeSet<Integer> guests, int barrel) {
        int want = want(s, h, guests);
        int given = given(s, h, guests);
        int draws = 0;
        int there = given + s.stored().get(h);
        while (draws < want && there > 0) {
            draws++;
            there--;
        }
        int stays = 0;
        while (stays < barrel && there > 0) {
            stays++;
            there--;
        }
        return new int[] {want, says(s, h, guests), given, draws, want - draws, there, stays};
    }

    private int[] facts(Snap s, int h) {
        return facts(s, h, new TreeSet<>(), houses.get(h).barrel());
    }

    private int total(Snap s, int what) {
        int total = 0;
        for (int h = 0; h < houses.size(); h++) {
            total += facts(s, h)[what];
        }
        return total;
    }

    private Snap dayAfter(Snap s) {
        List<Integer> stored = new ArrayList<>();
        List<Integer> lacked = new ArrayList<>();
        for (int h = 0; h < houses.size(); h++) {
            stored.add(facts(s, h)[6]);
            lacked.add(s.lacked().get(h) + facts(s, h)[4]);
        }
        return new Snap(s.order(), stored, lacked, new TreeSet<>(), s.away(), s.day() + 1);
    }

    private static TreeSet<Integer> plus(TreeSet<Integer> set, int h) {
        TreeSet<Integer> more = new TreeSet<>(set);
        more.add(h);
        return more;
    }

    private static TreeSet<Integer> flipped(TreeSet<Integer> set, int h) {
        TreeSet<Integer> other = plus(set, h);
        if (set.contains(h)) other.remove(h);
        return other;
    }

    private static Snap swapped(Snap s, int one, int other) {
        List<Integer> order = new ArrayList<>(s.order());
        Collections.swap(order, order.indexOf(one), order.indexOf(other));
        return s.standing(order);
    }

    private static int bits(TreeSet<Integer> set) {
        int bits = 0;
        for (int h : set) {
            bits += 1 << h;
        }
        return bits;
    }

    private void act(Snap then) {
        acts.addLast(now);
        if (acts.size() > 14) acts.removeFirst();
        now = then;
    }

    int today(int h, int what) {
        if (!known(h)) return UNKNOWN;
        if (what < 0 || what > 5) return OUTSIDE;
        return facts(now, h)[what];
    }

    int at(int place) {
        return known(place) ? now.order().get(place) : NONE;
    }

    int day() {
        int lacks = total(now, 4);
        act(dayAfter(now));
        return lacks;
    }

    int swap(int one, int other) {
        if (!known(one) || !known(other)) return UNKNOWN;
        if (one == other) return OUTSIDE;
        act(swapped(now, one, other));
        return now.order().indexOf(one);
    }

    int salt(int h) {
        if (!known(h)) return UNKNOWN;
        if (now.salted().contains(h)) return STATE;
        act(now.with(plus(now.salted(), h), now.away()));
        return facts(now, h)[0];
    }

    int away(int h) {
        if (!known(h)) return UNKNOWN;
        act(now.with(now.salted(), flipped(now.away(), h)));
        return now.away().contains(h) ? 1 : 0;
    }

    int undo() {
        if (acts.isEmpty()) return STATE;
        now = acts.removeLast();
        return acts.size();
    }

    private static int sum(List<Integer> numbers) {
        return numbers.stream().mapToInt(Integer::intValue).sum();
    }

    int ahead(int n, int what) {
        if (n < 0 || n > 20 || what < 0 || what > 1) return OUTSIDE;
        Snap s = now;
        int over = 0;
        for (int i = 0; i < n; i++) {
            over += total(s, 5);
            s = dayAfter(s);
        }
        return what == 1 ? over : sum(s.lacked()) - sum(now.lacked());
    }

    private static void orders(List<Integer> left, List<Integer> begun, List<List<Integer>> into) {
        if (left.isEmpty()) into.add(new ArrayList<>(begun));
        for (int h : left) {
            List<Integer> rest = new ArrayList<>(left);
            rest.remove((Integer) h);
            List<Integer> more = new ArrayList<>(begun);
            more.add(h);
            orders(rest, more, into);
        }
    }

    private List<List<Integer>> allOrders() {
        List<List<Integer>> all = new ArrayList<>();
        orders(now.order(), new ArrayList<>(), all);
        return all;
    }

    private int best(boolean greatest, boolean wantsOrder) {
        int bestLack = Integer.MAX_VALUE;
        int bestOrder = Integer.MAX_VALUE;
        for (List<Integer> order : allOrders()) {
            int lack = 0;
            int number = 0;
            for (int h : order) {
                int lacks = facts(now.standing(order), h)[4];
                lack = greatest ? Math.max(lack, lacks) : lack + lacks;
                number = number * 10 + h + 1;
            }
            if (lack < bestLack || lack == bestLack && number < bestOrder) {
                bestLack = lack;
                bestOrder = number;
            }
        }
        return wantsOrder ? bestOrder : bestLack;
    }

    int order(boolean order) {
        return best(false, order);
    }

    int worst(boolean order) {
        return best(true, order);
    }

    private static TreeSet<Integer> setOf(int bits) {
        TreeSet<Integer> set = new TreeSet<>();
        for (int h = 0; h < 6; h++) {
            if ((bits & 1 << h) != 0) set.add(h);
        }
        return set;
    }

    int salts(int h) {
        if (!known(h)) return UNKNOWN;
        for (int size = 0; size <= 6; size++) {
            for (int bits = 0; bits < 1 << houses.size(); bits++) {
                TreeSet<Integer> set = setOf(bits);
                if (set.size() != size || set.stream().anyMatch(now.salted()::contains)) continue;
                set.addAll(now.salted());
                if (facts(now.with(set, now.away()), h)[4] == 0) return bits;
            }
        }
        return NONE;
    }

    int cask(int h) {
        if (!known(h)) return UNKNOWN;
        for (int barrel = 0; barrel <= 9; barrel++) {
            Snap s = now;
            int inside = 0;
            boolean lacks = false;
            for (int i = 0; i < 10; i++) {
                List<Integer> stored = new ArrayList<>(s.stored());
                stored.set(h, inside);
                Snap tried = new Snap(s.order(), stored, s.lacked(), s.salted(), s.away(), s.day());
                int[] facts = facts(tried, h, new TreeSet<>(), barrel);
                lacks |= facts[4] > 0;
                inside = facts[6];
                s = dayAfter(tried);
            }
            if (!lacks) return barrel;
        }
        return NONE;
    }

    int judge(int n, long row) {
        if (n < 1 || n > 4 || row < 0) return OUTSIDE;
        String figures = Long.toString(row);
        if (figures.length() > 3 * n) return OUTSIDE;
        figures = "0".repeat(3 * n - figures.length()) + figures;
        Snap s = now;
        for (int i = 0; i < n; i++) {
            int a = figures.charAt(3 * i) - '0';
            int b = figures.charAt(3 * i + 1) - '0';
            int h = figures.charAt(3 * i + 2) - '0';
            s = doing(s, a, b, h);
            if (s == null) return i;
        }
        return NONE;
    }

    private Snap doing(Snap s, int a, int b, int h) {
        if (a == 0) return b == 0 && h == 0 ? dayAfter(s) : null;
        if (!known(h) || a > 4) return null;
        if (a == 1) return known(b) && b != h ? swapped(s, b, h) : null;
        if (a == 4) return facts(s, h)[4] <= b ? s : null;
        if (b != 0) return null;
        if (a == 3) return s.with(s.salted(), flipped(s.away(), h));
        return s.salted().contains(h) ? null : s.with(plus(s.salted(), h), s.away());
    }

    int see(int h, int heat, int said) {
        if (!known(h)) return UNKNOWN;
        if (heat < 0 || heat > 3 || said < 0 || said > 30) return OUTSIDE;
        if (seen.size() == 6) return FULL;
        seen.add(new Sight(h, heat, said));
        return seen.size();
    }

    int unsee() {
        int size = seen.size();
        seen.clear();
        return size;
    }

    int wants(int h) {
        if (!known(h)) return UNKNOWN;
        TreeSet<Integer> may = new TreeSet<>(List.of(0, 1, 2, 3, 4, 5, 6, 7, 8, 9));
        for (Sight sight : seen) {
            if (sight.house() == h) {
                may.removeIf(w -> sayOf(w, houses.get(h).kind(), sight.heat()) != sight.said());
            }
        }
        return bits(may);
    }

    private static int sayOf(int w, int kind, int heat) {
        return new int[] {w, w + 3, w * 2, w + 2}[kind] + heat;
    }

    private static int fraction(BigInteger above, BigInteger below, boolean upper) {
        BigInteger common = above.gcd(below);
        return (upper ? above : below).divide(common).intValueExact();
    }

    int share(int h, boolean upper) {
        if (!known(h)) return UNKNOWN;
        long more = 0;
        long count = 0;
        for (List<Integer> coming : allOrders()) {
            TreeSet<Integer> missing = new TreeSet<>(coming);
            for (int comes : coming) {
                int before = total(now.with(now.salted(), union(missing, now.away())), 3);
                missing.remove(comes);
                int after = total(now.with(now.salted(), union(missing, now.away())), 3);
                if (comes == h) more += after - before;
            }
            count++;
        }
        return fraction(BigInteger.valueOf(more), BigInteger.valueOf(count), upper);
    }

    private static TreeSet<Integer> union(TreeSet<Integer> one, TreeSet<Integer> other) {
        TreeSet<Integer> both = new TreeSet<>(one);
        both.addAll(other);
        return both;
    }

    private int has(int who, int one, int other, boolean oneSalts, boolean otherSalts) {
        TreeSet<Integer> salted = new TreeSet<>(now.salted());
        if (oneSalts) salted.add(one);
        if (otherSalts) salted.add(other);
        return (salted.contains(who) ? 2 : 0) - facts(now.with(salted, now.away()), who)[4];
    }

    int rests(int one, int other, int what) {
        if (!known(one) || !known(other)) return UNKNOWN;
        if (one == other || what < 0 || what > 1) return OUTSIDE;
        List<Integer> pairs = new ArrayList<>();
        for (boolean a : new boolean[] {false, true}) {
            for (boolean b : new boolean[] {false, true}) {
                boolean oneStays = has(one, one, other, !a, b) <= has(one, one, other, a, b);
                boolean otherStays = has(other, one, other, a, !b) <= has(other, one, other, a, b);
                if (oneStays && otherStays) pairs.add((a ? 10 : 0) + (b ? 1 : 0));
            }
        }
        return what == 0 ? pairs.size() : pairs.isEmpty() ? NONE : pairs.get(0);
    }

    int guests(int m, int x, boolean upper) {
        if (m < 0 || m > 60 || x < 0 || x > 10) return OUTSIDE;
        BigInteger above = BigInteger.ZERO;
        for (int bits = 0; bits < 1 << houses.size(); bits++) {
            BigInteger ways = BigInteger.ONE;
            int lacks = 0;
            for (int h = 0; h < houses.size(); h++) {
                lacks += facts(now, h, setOf(bits), houses.get(h).barrel())[4];
                int tenths = setOf(bits).contains(h) ? x : 10 - x;
                ways = ways.multiply(BigInteger.valueOf(tenths));
            }
            if (lacks >= m) above = above.add(ways);
        }
        return fraction(above, BigInteger.TEN.pow(houses.size()), upper);
    }

    long seed(long v) {
        long before = seed.longValue();
        seed = BigInteger.valueOf(v);
        return before;
    }

    int weeks(int m) {
        if (m < 1 || m > 30) return OUTSIDE;
        BigInteger wrap = BigInteger.TWO.pow(64);
        Snap s = now;
        for (int i = 0; i < m; i++) {
            seed = seed.multiply(new BigInteger("6364136223846793005"))
                .add(new BigInteger("1442695040888963407")).mod(wrap);
            int left = seed.divide(BigInteger.TWO.pow(33)).mod(BigInteger.valueOf(18)).intValueExact();
            if (left >= 12) {
                s = dayAfter(s);
            } else if (left >= 6 && known(left - 6)) {
                s = s.with(s.salted(), flipped(s.away(), left - 6));
            } else if (left < 6 && known(left)) {
                s = s.with(plus(s.salted(), left), s.away());
            }
        }
        return sum(s.lacked()) - sum(now.lacked());
    }

    int keep(int slot) {
        if (slot != 0 && slot != 1) return UNKNOWN;
        kept.put(slot, now);
        return now.day();
    }

    int again(int slot) {
        if (slot != 0 && slot != 1) return UNKNOWN;
        if (!kept.containsKey(slot)) return STATE;
        now = kept.get(slot);
        acts.clear();
        return now.day();
    }

    int count(int what) {
        if (what < 0 || what > 10) return OUTSIDE;
        return new int[] {text.length(), houses.size(), heats.size(), now.day(), heat(now.day()), total(now, 4),
            sum(now.lacked()), bits(now.salted()), bits(now.away()), acts.size(), seen.size()}[what];
    }
}

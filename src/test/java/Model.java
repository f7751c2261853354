import java.util.ArrayDeque;
import java.util.ArrayList;
import java.util.Collections;
import java.util.Deque;
import java.util.HashMap;
import java.util.List;
import java.util.Map;
import java.util.TreeSet;
import java.util.regex.Pattern;

/**
 * The document once more, written as plainly and as wastefully as it can be, to be held against the class:
 * faults by trying what could come behind, orders by trying all, shares by all comings, ways by all figures.
 */
final class Model {
    static final int UNKNOWN = -1, OUTSIDE = -2, STATE = -3, FULL = -4, NONE = -9;

    private static final Pattern HILL = Pattern.compile("K(G[0-9][a-f]{1,4}|I[0-9][0-3])*");
    private static final String SIGNS = "KGI0123456789abcdef";
    private static final Map<String, Boolean> BEGINNINGS = new HashMap<>();

    private static final class Man {
        int place;
        int kind;
        int white;
        boolean walked;
        TreeSet<Integer> knows = new TreeSet<>();

        Man copy() {
            Man man = new Man();
            man.place = place;
            man.kind = kind;
            man.white = white;
            man.walked = walked;
            man.knows = new TreeSet<>(knows);
            return man;
        }

        boolean hummock() {
            return white == 9;
        }
    }

    private static final class World {
        List<Man> men = new ArrayList<>();
        int night;

        World copy() {
            World world = new World();
            for (Man man : men) {
                world.men.add(man.copy());
            }
            world.night = night;
            return world;
        }
    }

    private String text = "";
    private List<String> kilns = new ArrayList<>();
    private World world = new World();
    private final Deque<World> acts = new ArrayDeque<>();
    private final World[] slots = new World[2];
    private final List<int[]> knew = new ArrayList<>();
    private long seed;

    // ---- the hill

    int write(int letter) {
        if (letter < 0 || letter > 255) return OUTSIDE;
        if (text.length() == 48) return FULL;
        text += (char) letter;
        return text.length();
    }

    int wipe() {
        int was = text.length();
        text = "";
        return was;
    }

    private static List<String> parts(String hill, char sign) {
        List<String> found = new ArrayList<>();
        for (String part : hill.substring(1).split("(?=[GI])")) {
            if (!part.isEmpty() && part.charAt(0) == sign) found.add(part.substring(1));
        }
        return found;
    }

    private static boolean isHill(String hill) {
        if (!HILL.matcher(hill).matches()) return false;
        List<String> told = parts(hill, 'G');
        if (told.size() > 4 || parts(hill, 'I').size() > 4) return false;
        TreeSet<Character> places = new TreeSet<>();
        for (String kiln : told) {
            places.add(kiln.charAt(0));
            String layers = kiln.substring(1);
            if (layers.chars().distinct().count() != layers.length()) return false;
        }
        return places.size() == told.size();
    }

    /** Whether a hill can begin so: two letters more are always enough to end one. */
    private static boolean canBegin(String start) {
        return BEGINNINGS.computeIfAbsent(start, s -> {
            if (isHill(s)) return true;
            for (char a : SIGNS.toCharArray()) {
                if (isHill(s + a)) return true;
                for (char b : SIGNS.toCharArray()) {
                    if (isHill(s + a + b)) return true;
                }
            }
            return false;
        });
    }

    int fault() {
        for (int i = 0; i < text.length(); i++) {
            if (!canBegin(text.substring(0, i + 1))) return i;
        }
        return isHill(text) ? NONE : text.length();
    }

    int hill() {
        if (fault() != NONE) return STATE;
        kilns = parts(text, 'G');
        world = new World();
        for (String told : parts(text, 'I')) {
            Man man = new Man();
            man.place = told.charAt(0) - '0';
            man.kind = told.charAt(1) - '0';
            world.men.add(man);
        }
        acts.clear();
        slots[0] = null;
        slots[1] = null;
        return 10 * kilns.size() + world.men.size();
    }

    private static int bits(Iterable<Integer> layers) {
        int bits = 0;
        for (int layer : layers) bits |= 1 << (layer - 1);
        return bits;
    }

    private static List<Integer> layers(String kiln) {
        List<Integer> layers = new ArrayList<>();
        for (char c : kiln.substring(1).toCharArray()) layers.add(c - 'a' + 1);
        return layers;
    }

    private static int place(String kiln) {
        return kiln.charAt(0) - '0';
    }

    private boolean noTramp(int tramp) {
        return tramp < 0 || tramp >= world.men.size();
    }

    private static boolean not01(int what) {
        return what != 0 && what != 1;
    }

    int kiln(int kiln, int what) {
        if (kiln < 0 || kiln >= kilns.size()) return UNKNOWN;
        String told = kilns.get(kiln);
        if (what == 0) return place(told);
        if (what == 1) return layers(told).size();
        if (what == 2) return bits(layers(told));
        if (what == 3) {
            String figures = "";
            for (int layer : layers(told)) figures += layer;
            return Integer.parseInt(figures);
        }
        if (what == 4) {
            int bits = 0;
            for (int i = 0; i < world.men.size(); i++) {
                if (world.men.get(i).place == place(told)) bits += 1 << i;
            }
            return bits;
        }
        return OUTSIDE;
    }

    int tramp(int tramp, int what) {
        if (noTramp(tramp)) return UNKNOWN;
        Man man = world.men.get(tramp);
        if (what == 0) return man.place;
        if (what == 1) return man.kind;
        if (what == 2) return bits(man.knows);
        if (what == 3) return man.white;
        if (what == 4) return speed(man);
        if (what == 5) return man.walked ? 1 : 0;
        if (what == 6) return man.hummock() ? 1 : 0;
        return OUTSIDE;
    }

    private static int speed(Man man) {
        return man.white < 3 ? 3 : man.white < 6 ? 2 : man.white < 9 ? 1 : 0;
    }

    int at(int place) {
        if (place < 0 || place > 9) return UNKNOWN;
        for (int i = 0; i < kilns.size(); i++) {
            if (place(kilns.get(i)) == place) return i;
        }
        return NONE;
    }

    // ---- acts

    private static void passNight(World world, List<String> kilns) {
        for (Man man : world.men) {
            for (String kiln : kilns) {
                if (place(kiln) != man.place || man.hummock()) continue;
                List<Integer> left = layers(kiln);
                left.removeAll(man.knows);
                int most = man.kind == 2 ? left.size() : man.kind == 1 ? 2 : 1;
                man.knows.addAll(left.subList(0, Math.min(most, left.size())));
                man.white = Math.min(9, man.white + (man.kind == 2 ? 2 : 1));
                break;
            }
        }
        for (Man man : world.men) {
            if (man.kind != 3 || man.hummock()) continue;
            for (Man beside : world.men) {
                if (beside.place == man.place) man.knows.addAll(beside.knows);
            }
        }
        for (Man man : world.men) man.walked = false;
        world.night++;
    }

    private static boolean walks(World world, int tramp, int place) {
        if (tramp < 0 || tramp >= world.men.size()) return false;
        Man man = world.men.get(tramp);
        if (man.walked || man.hummock() || man.place == place) return false;
        if (Math.max(man.place - place, place - man.place) > speed(man)) return false;
        man.place = place;
        man.walked = true;
        return true;
    }

    private static boolean tells(World world, int one, int other) {
        int men = world.men.size();
        if (one < 0 || other < 0 || one >= men || other >= men || one == other) return false;
        Man teller = world.men.get(one);
        Man hearer = world.men.get(other);
        if (teller.place != hearer.place || hearer.hummock()) return false;
        hearer.knows.addAll(teller.knows);
        return true;
    }

    private static boolean washes(World world, int tramp) {
        if (tramp < 0 || tramp >= world.men.size()) return false;
        Man man = world.men.get(tramp);
        if (man.hummock()) return false;
        man.knows.clear();
        man.white = 0;
        return true;
    }

    private void done(World before) {
        acts.addLast(before);
        if (acts.size() > 14) acts.removeFirst();
    }

    int night() {
        done(world.copy());
        passNight(world, kilns);
        int hummocks = 0;
        for (Man man : world.men) hummocks += man.hummock() ? 1 : 0;
        return hummocks;
    }

    int walk(int tramp, int place) {
        if (noTramp(tramp) || place < 0 || place > 9) return UNKNOWN;
        World before = world.copy();
        if (!walks(world, tramp, place)) return STATE;
        done(before);
        return Math.abs(before.men.get(tramp).place - place);
    }

    int tell(int one, int other) {
        if (noTramp(one) || noTramp(other)) return UNKNOWN;
        if (one == other) return OUTSIDE;
        World before = world.copy();
        if (!tells(world, one, other)) return STATE;
        done(before);
        return world.men.get(other).knows.size();
    }

    int wash(int tramp) {
        if (noTramp(tramp)) return UNKNOWN;
        World before = world.copy();
        if (!washes(world, tramp)) return STATE;
        done(before);
        return before.men.get(tramp).knows.size();
    }

    int undo() {
        if (acts.isEmpty()) return STATE;
        world = acts.removeLast();
        return acts.size();
    }

    // ---- nights to come, the land

    int later(int tramp, int n, int what) {
        if (noTramp(tramp)) return UNKNOWN;
        if (n < 0 || n > 20 || not01(what)) return OUTSIDE;
        World then = world.copy();
        for (int i = 0; i < n; i++) passNight(then, kilns);
        return what == 0 ? bits(then.men.get(tramp).knows) : then.men.get(tramp).white;
    }

    int hummock(int tramp) {
        if (noTramp(tramp)) return UNKNOWN;
        for (int n = 0; n <= 20; n++) {
            if (later(tramp, n, 1) == 9) return n;
        }
        return NONE;
    }

    int soon(int tramp, int layers, int what) {
        if (noTramp(tramp)) return UNKNOWN;
        if (layers < 0 || layers > 63 || not01(what)) return OUTSIDE;
        for (int nights = 0; nights <= 4; nights++) {
            int way = way(world, tramp, layers, nights, 0);
            if (way != NONE) return what == 0 ? nights : way;
        }
        return NONE;
    }

    private int way(World from, int tramp, int layers, int nights, int soFar) {
        if (nights == 0) return (bits(from.men.get(tramp).knows) & layers) == layers ? soFar : NONE;
        for (int place = 0; place <= 9; place++) {
            World then = from.copy();
            if (then.men.get(tramp).place != place && !walks(then, tramp, place)) continue;
            passNight(then, kilns);
            int way = way(then, tramp, layers, nights - 1, 10 * soFar + place);
            if (way != NONE) return way;
        }
        return NONE;
    }

    private static void orders(List<Integer> soFar, List<Integer> left, List<List<Integer>> into) {
        if (left.isEmpty()) into.add(new ArrayList<>(soFar));
        for (Integer next : left) {
            List<Integer> rest = new ArrayList<>(left);
            rest.remove(next);
            soFar.add(next);
            orders(soFar, rest, into);
            soFar.remove(soFar.size() - 1);
        }
    }

    int beneath(int what) {
        if (not01(what)) return OUTSIDE;
        TreeSet<Integer> all = new TreeSet<>();
        for (String kiln : kilns) all.addAll(layers(kiln));
        List<List<Integer>> orders = new ArrayList<>();
        orders(new ArrayList<>(), new ArrayList<>(all), orders);
        List<Integer> fitting = new ArrayList<>();
        for (List<Integer> order : orders) {
            boolean fits = true;
            for (String kiln : kilns) {
                List<Integer> seen = new ArrayList<>(order);
                seen.retainAll(layers(kiln));
                fits &= seen.equals(layers(kiln));
            }
            int figures = 0;
            for (int layer : order) figures = 10 * figures + layer;
            if (fits) fitting.add(figures);
        }
        return what == 0 ? fitting.size() : fitting.isEmpty() ? NONE : Collections.min(fitting);
    }

    int judge(int n, long row) {
        if (n < 1 || n > 4 || row < 0 || Long.toString(row).length() > 3 * n) return OUTSIDE;
        String figures = "0".repeat(3 * n - Long.toString(row).length()) + row;
        World then = world.copy();
        for (int i = 0; i < n; i++) {
            if (!isSo(then, figures.substring(3 * i, 3 * i + 3))) return i;
        }
        return NONE;
    }

    private boolean isSo(World then, String doing) {
        int second = doing.charAt(1) - '0';
        int third = doing.charAt(2) - '0';
        boolean there = second < then.men.size();
        if (doing.equals("000")) {
            passNight(then, kilns);
            return true;
        }
        switch (doing.charAt(0)) {
            case '1': return walks(then, second, third);
            case '2': return tells(then, second, third);
            case '3': return second == 0 && washes(then, third);
            case '4': return there && then.men.get(second).knows.contains(third);
            case '5': return there && then.men.get(second).white >= third;
            default: return false;
        }
    }

    // ---- what one knew

    int knew(int layer, int knewIt) {
        if (layer < 1 || layer > 6 || not01(knewIt)) return OUTSIDE;
        if (knew.size() == 6) return FULL;
        knew.add(new int[] {layer, knewIt});
        return knew.size();
    }

    int unknew() {
        int was = knew.size();
        knew.clear();
        return was;
    }

    int lay(int what) {
        if (not01(what)) return OUTSIDE;
        TreeSet<Integer> found = new TreeSet<>();
        for (int kiln = 0; kiln < kilns.size(); kiln++) {
            for (int kind = 0; kind <= 1; kind++) {
                World alone = new World();
                Man man = new Man();
                man.kind = kind;
                man.place = place(kilns.get(kiln));
                alone.men.add(man);
                for (int nights = 0; nights <= 3; nights++) {
                    boolean fits = true;
                    for (int[] one : knew) fits &= man.knows.contains(one[0]) == (one[1] == 1);
                    if (fits) found.add(100 * kind + 10 * kiln + nights);
                    passNight(alone, kilns);
                }
            }
        }
        return what == 0 ? found.size() : found.isEmpty() ? NONE : found.first();
    }

    // ---- shares, rests, chances

    private static int fraction(long above, long below, boolean upper) {
        for (long d = below; d > 1; d--) {
            if (above % d == 0 && below % d == 0) {
                above /= d;
                below /= d;
            }
        }
        return (int) (upper ? above : below);
    }

    int share(int tramp, boolean upper) {
        if (noTramp(tramp)) return UNKNOWN;
        List<Integer> all = new ArrayList<>();
        for (int i = 0; i < world.men.size(); i++) all.add(i);
        List<List<Integer>> comings = new ArrayList<>();
        orders(new ArrayList<>(), all, comings);
        long more = 0;
        for (List<Integer> coming : comings) {
            TreeSet<Integer> known = new TreeSet<>();
            for (int one : coming) {
                int were = known.size();
                known.addAll(world.men.get(one).knows);
                if (one == tramp) more += known.size() - were;
            }
        }
        return fraction(more, comings.size(), upper);
    }

    private int[] gains(int one, int a, int other, int b) {
        World then = world.copy();
        if (a < kilns.size()) walks(then, one, place(kilns.get(a)));
        if (b < kilns.size()) walks(then, other, place(kilns.get(b)));
        passNight(then, kilns);
        Man first = then.men.get(one);
        Man second = then.men.get(other);
        int less = first.place == second.place ? 3 : 0;
        return new int[] {2 * first.knows.size() - less, 2 * second.knows.size() - less};
    }

    int rests(int one, int other, int what) {
        if (noTramp(one) || noTramp(other)) return UNKNOWN;
        if (one == other || not01(what)) return OUTSIDE;
        TreeSet<Integer> pairs = new TreeSet<>();
        for (int pair = 0; pair < 16; pair++) {
            int a = pair / 4;
            int b = pair % 4;
            int[] here = gains(one, a, other, b);
            boolean rests = true;
            for (int c = 0; c < 4; c++) {
                rests &= gains(one, c, other, b)[0] <= here[0] && gains(one, a, other, c)[1] <= here[1];
            }
            if (rests) pairs.add(10 * a + b);
        }
        return what == 0 ? pairs.size() : pairs.isEmpty() ? NONE : pairs.first();
    }

    int cold(int tramp, int m, int x, boolean upper) {
        if (noTramp(tramp)) return UNKNOWN;
        if (m < 0 || m > 6 || x < 0 || x > 10) return OUTSIDE;
        long above = chance(tramp, m, x, 0, new ArrayList<>());
        return fraction(above, (long) Math.pow(10, kilns.size()), upper);
    }

    private long chance(int tramp, int m, int x, int kiln, List<String> warm) {
        if (kiln == kilns.size()) {
            World then = world.copy();
            passNight(then, warm);
            return then.men.get(tramp).knows.size() >= m ? 1 : 0;
        }
        long cold = chance(tramp, m, x, kiln + 1, warm);
        List<String> more = new ArrayList<>(warm);
        more.add(kilns.get(kiln));
        return x * cold + (10 - x) * chance(tramp, m, x, kiln + 1, more);
    }

    long seed(long v) {
        long was = seed;
        seed = v;
        return was;
    }

    int years(int m) {
        if (m < 1 || m > 30) return OUTSIDE;
        World then = world.copy();
        int sum = 0;
        for (int i = 0; i < m; i++) {
            seed = seed * 6364136223846793005L + 1442695040888963407L;
            int left = (int) Long.remainderUnsigned(Long.divideUnsigned(seed, 1L << 33), 64);
            if (left >= 48) passNight(then, kilns);
            else if (left >= 44) tells(then, left - 44, left == 47 ? 0 : left - 43);
            else if (left >= 40) washes(then, left - 40);
            else walks(then, left / 10, left % 10);
            for (Man man : then.men) sum += man.knows.size();
        }
        return sum;
    }

    // ---- slots

    int keep(int slot) {
        if (slot < 0 || slot > 1) return UNKNOWN;
        slots[slot] = world.copy();
        return world.night;
    }

    int again(int slot) {
        if (slot < 0 || slot > 1) return UNKNOWN;
        if (slots[slot] == null) return STATE;
        world = slots[slot].copy();
        acts.clear();
        return world.night;
    }

    int count(int what) {
        TreeSet<Integer> known = new TreeSet<>();
        TreeSet<Integer> inKilns = new TreeSet<>();
        int hummocks = 0;
        int walked = 0;
        for (int i = 0; i < world.men.size(); i++) {
            Man man = world.men.get(i);
            known.addAll(man.knows);
            if (man.hummock()) hummocks += 1 << i;
            if (man.walked) walked += 1 << i;
        }
        for (String kiln : kilns) inKilns.addAll(layers(kiln));
        int[] all = {text.length(), kilns.size(), world.men.size(), world.night, hummocks, walked,
            bits(known), bits(inKilns), acts.size(), knew.size()};
        return what < 0 || what > 9 ? OUTSIDE : all[what];
    }
}

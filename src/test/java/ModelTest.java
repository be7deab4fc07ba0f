import java.math.BigInteger;
import java.util.ArrayDeque;
import java.util.ArrayList;
import java.util.Arrays;
import java.util.Deque;
import java.util.List;
import java.util.Random;
import java.util.regex.Matcher;
import java.util.regex.Pattern;

/**
 * Runs of random calls against a second writing of the document in another form (lists, regular
 * expressions, big fractions). The seeds are fixed: each run of this test makes the same calls.
 */
public final class ModelTest {
    private static final int NONE = -1, UNKNOWN = -2, OUTSIDE = -3, NOT = -4, FULL = -5;

    /** A street as it is told. */
    private static final class Told {
        final String kind;
        final int need, voters, water;
        int slope = NONE;

        Told(String kind, int need, int voters, int water) {
            this.kind = kind;
            this.need = need;
            this.voters = voters;
            this.water = water;
        }

        Told copy() {
            Told other = new Told(kind, need, voters, water);
            other.slope = slope;
            return other;
        }

        int wants() {
            switch (kind) {
                case "orchard": return need + need;
                case "laundry": return 0;
                default: return need;
            }
        }
    }

    private static final class Bylaws {
        List<Told> streets = new ArrayList<>();
        int cap = 30, inches = 8;

        Bylaws copy() {
            Bylaws other = new Bylaws();
            for (Told t : streets) other.streets.add(t.copy());
            other.cap = cap;
            other.inches = inches;
            return other;
        }
    }

    /** How it stands; never changed once it is handed on. */
    private static final class World {
        final int[] water, voters;
        final int last, day;

        World(int[] water, int[] voters, int last, int day) {
            this.water = water.clone();
            this.voters = voters.clone();
            this.last = last;
            this.day = day;
        }
    }

    private static final class Model {
        String text = "";
        Bylaws laws = new Bylaws();
        World world = new World(new int[0], new int[0], NONE, 0);
        Deque<World> past = new ArrayDeque<>();
        World[] kept = new World[2];
        List<int[]> seen = new ArrayList<>();

        int n() { return laws.streets.size(); }
        boolean no(int s) { return s < 0 || s >= n(); }

        // ---- the text

        private Bylaws made;
        private int madeClauses;

        int write(int letter) {
            if (letter < 0 || letter > 255) return OUTSIDE;
            if (text.length() == 160) return FULL;
            text += (char) letter;
            return text.length();
        }

        int erase() {
            int had = text.length();
            text = "";
            return had;
        }

        private static final class Stop extends RuntimeException {
            final int place;
            Stop(int place) { this.place = place; }
        }

        private List<String> tokens;
        private List<Integer> places;
        private int at;

        private String token() { return at < tokens.size() ? tokens.get(at) : "END"; }
        private int place() { return at < tokens.size() ? places.get(at) : text.length(); }

        private int number(List<Integer> may) {
            if (!token().matches("[0-9]{1,2}")) throw new Stop(place());
            int value = Integer.parseInt(token());
            if (!may.contains(value)) throw new Stop(place());
            at++;
            return value;
        }

        private static List<Integer> range(int from, int to) {
            List<Integer> all = new ArrayList<>();
            for (int i = from; i <= to; i++) all.add(i);
            return all;
        }

        int fault() {
            tokens = new ArrayList<>();
            places = new ArrayList<>();
            Matcher m = Pattern.compile("[a-z]+|[0-9]+|[^ ]", Pattern.DOTALL).matcher(text);
            while (m.find()) {
                tokens.add(m.group());
                places.add(m.start());
            }
            at = 0;
            made = laws.copy();
            madeClauses = 0;
            try {
                while (true) {
                    clause();
                    madeClauses++;
                    if (at == tokens.size()) return NONE;
                    if (!token().equals(";") || madeClauses == 14) throw new Stop(place());
                    at++;
                }
            } catch (Stop stop) {
                return stop.place;
            }
        }

        private void clause() {
            String word = token();
            int size = made.streets.size();
            List<String> kinds = Arrays.asList("garden", "orchard", "alley", "laundry");
            if (kinds.contains(word) && size < 8) {
                at++;
                int need = number(range(0, 20));
                int voters = number(range(0, 20));
                made.streets.add(new Told(word, need, voters, number(range(0, 99))));
            } else if (word.equals("town")) {
                at++;
                made = new Bylaws();
            } else if (word.equals("slope")) {
                at++;
                List<Integer> may = range(0, size - 1);
                Integer from = number(may);
                may.remove(from);
                made.streets.get(from).slope = number(may);
            } else if (word.equals("cap")) {
                at++;
                made.cap = number(range(5, 99));
            } else if (word.equals("inches")) {
                at++;
                made.inches = number(range(1, 20));
            } else {
                throw new Stop(place());
            }
        }

        int town() {
            if (fault() != NONE) return NOT;
            laws = made;
            text = "";
            int[] water = new int[n()], voters = new int[n()];
            for (int s = 0; s < n(); s++) {
                water[s] = laws.streets.get(s).water;
                voters[s] = laws.streets.get(s).voters;
            }
            world = new World(water, voters, NONE, 0);
            past.clear();
            kept = new World[2];
            seen.clear();
            return madeClauses;
        }

        // ---- the rules

        private int driest(World w, List<Integer> some) {
            int best = NONE;
            for (int s : some) if (best == NONE || w.water[s] < w.water[best]) best = s;
            return best;
        }

        int givesTo(World w, int s) {
            List<Integer> all = range(0, n() - 1);
            switch (laws.streets.get(s).kind) {
                case "alley": return NONE;
                case "laundry":
                    all.remove(Integer.valueOf(s));
                    return driest(w, all);
                default:
                    return w.water[s] < laws.streets.get(s).wants() ? s : driest(w, all);
            }
        }

        /** Votes when each street gives these to those; the last street's are left out. */
        int[] votes(World w, int[] to, int[] voters) {
            int[] sum = new int[n()];
            for (int s = 0; s < n(); s++) if (to[s] != NONE) sum[to[s]] += voters[s];
            if (w.last != NONE) sum[w.last] = 0;
            return sum;
        }

        int[] wishes(World w) {
            int[] to = new int[n()];
            for (int s = 0; s < n(); s++) to[s] = givesTo(w, s);
            return to;
        }

        int carried(int[] votes) {
            for (int s = 0; s < votes.length; s++) {
                boolean over = votes[s] >= 1;
                for (int o = 0; o < votes.length; o++) if (o != s && votes[o] >= votes[s]) over = false;
                if (over) return s;
            }
            return NONE;
        }

        int rainsOn(World w) { return carried(votes(w, wishes(w), w.voters)); }

        /** Where it falls, one behind the other; changes the water. */
        List<Integer> fall(int[] water, int street) {
            List<Integer> fell = new ArrayList<>();
            int amount = laws.inches, s = street;
            while (s != NONE && !fell.contains(s) && amount > 0) {
                fell.add(s);
                water[s] += amount;
                amount = Math.max(0, water[s] - laws.cap);
                water[s] -= amount;
                s = laws.streets.get(s).slope;
            }
            return fell;
        }

        World after(World w, int street) {
            int[] water = w.water.clone();
            if (street != NONE) fall(water, street);
            for (int s = 0; s < n(); s++) if (water[s] > 0) water[s]--;
            return new World(water, w.voters, street, w.day + 1);
        }

        World after(World w) { return after(w, rainsOn(w)); }

        int content(World w) {
            int bits = 0;
            for (int s = 0; s < n(); s++) if (w.water[s] >= laws.streets.get(s).wants()) bits += 1 << s;
            return bits;
        }

        // ---- the calls

        int street(int s, int what) {
            if (no(s)) return UNKNOWN;
            if (what < 0 || what > 6) return OUTSIDE;
            Told t = laws.streets.get(s);
            return new int[] {Arrays.asList("garden", "orchard", "alley", "laundry").indexOf(t.kind), t.need,
                world.voters[s], world.water[s], t.slope, givesTo(world, s),
                votes(world, wishes(world), world.voters)[s]}[what];
        }

        int as(int s, int kind) {
            if (no(s)) return UNKNOWN;
            if (kind < 0 || kind > 4) return OUTSIDE;
            String over = new String[] {"garden orchard alley laundry", "garden orchard alley", "orchard", "alley", "laundry"}[kind];
            return Arrays.asList(over.split(" ")).contains(laws.streets.get(s).kind) ? laws.streets.get(s).wants() : NOT;
        }

        private void set(World w) {
            past.addLast(world);
            if (past.size() > 8) past.removeFirst();
            world = w;
        }

        int day() {
            if (world.day == 999) return FULL;
            set(after(world));
            return world.last;
        }

        int hose(int s, int w) {
            if (no(s)) return UNKNOWN;
            if (w < 1 || w > 20) return OUTSIDE;
            int[] water = world.water.clone();
            water[s] = Math.min(99, water[s] + w);
            set(new World(water, world.voters, world.last, world.day));
            return water[s];
        }

        int poll(int s, int v) {
            if (no(s)) return UNKNOWN;
            if (v < 0 || v > 20) return OUTSIDE;
            int had = world.voters[s];
            set(polled(s, v));
            return had;
        }

        World polled(int s, int v) {
            int[] voters = world.voters.clone();
            voters[s] = v;
            return new World(world.water, voters, world.last, world.day);
        }

        int undo() {
            if (past.isEmpty()) return NOT;
            world = past.removeLast();
            return past.size();
        }

        int keep(int k) {
            if (k != 0 && k != 1) return UNKNOWN;
            kept[k] = world;
            return world.day;
        }

        int back(int k) {
            if (k != 0 && k != 1) return UNKNOWN;
            if (kept[k] == null) return NOT;
            world = kept[k];
            past.clear();
            return world.day;
        }

        int where(int n) {
            if (n < 1 || n > 30) return OUTSIDE;
            World w = world;
            for (int i = 1; i < n; i++) w = after(w);
            return rainsOn(w);
        }

        int wet(int s, int n) {
            if (no(s)) return UNKNOWN;
            if (n < 0 || n > 30) return OUTSIDE;
            World w = world;
            for (int i = 0; i < n; i++) w = after(w);
            return w.water[s];
        }

        int carry(int s) {
            if (no(s)) return UNKNOWN;
            int[] wish = wishes(world);
            for (int size = 0; size <= n(); size++) {
                for (int set = 0; set < 1 << n(); set++) {
                    if (Integer.bitCount(set) != size) continue;
                    int[] to = wish.clone();
                    boolean may = true;
                    for (int o = 0; o < n(); o++) {
                        if ((set & 1 << o) == 0) continue;
                        if (o == s || laws.streets.get(o).kind.equals("alley")) may = false;
                        to[o] = s;
                    }
                    if (may && carried(votes(world, to, world.voters)) == s) return set;
                }
            }
            return NONE;
        }

        int reach(int s) {
            if (no(s)) return UNKNOWN;
            int bits = 0;
            for (int from = 0; from < n(); from++) if (fall(world.water.clone(), from).contains(s)) bits += 1 << from;
            return bits;
        }

        int month(int days, int k) {
            if (days < 1 || days > 4 || k < -1 || k > 3) return OUTSIDE;
            if (n() == 0 || k >= days) return NONE;
            int most = -1;
            List<Integer> first = null;
            int rows = (int) Math.round(Math.pow(n(), days));
            for (int code = 0; code < rows; code++) {
                List<Integer> row = new ArrayList<>();
                for (int i = 0, rest = code; i < days; i++, rest /= n()) row.add(0, rest % n());
                World w = world;
                for (int s : row) w = after(w, s);
                int happy = Integer.bitCount(content(w));
                if (happy > most) {
                    most = happy;
                    first = row;
                }
            }
            return k == NONE ? most : first.get(k);
        }

        int seen(int s, int n) {
            if (s != NONE && no(s)) return UNKNOWN;
            if (n < 1 || n > 20) return OUTSIDE;
            if (seen.size() == 6) return FULL;
            seen.add(new int[] {s, n});
            return seen.size();
        }

        int forget() {
            int had = seen.size();
            seen.clear();
            return had;
        }

        int polls(int s) {
            if (no(s)) return UNKNOWN;
            int bits = 0;
            for (int v = 0; v <= 20; v++) {
                List<Integer> rained = new ArrayList<>();
                World w = polled(s, v);
                for (int i = 0; i < 20; i++) {
                    w = after(w);
                    rained.add(w.last);
                }
                boolean all = true;
                for (int[] one : seen) all &= rained.get(one[1] - 1) == one[0];
                if (all) bits += 1 << v;
            }
            return bits;
        }

        private BigInteger ways(int s, int q, int[] to, int[] voters, int from) {
            if (from == n()) {
                return carried(votes(world, to, voters)) == s ? BigInteger.ONE : BigInteger.ZERO;
            }
            int[] away = voters.clone();
            away[from] = 0;
            BigInteger home = ways(s, q, to, away, from + 1).multiply(BigInteger.valueOf(q));
            return ways(s, q, to, voters, from + 1).multiply(BigInteger.valueOf(10 - q)).add(home);
        }

        int chance(int s, int q, int part) {
            if (s != NONE && no(s)) return UNKNOWN;
            if (q < 0 || q > 10 || part < 0 || part > 1) return OUTSIDE;
            BigInteger above = ways(s, q, wishes(world), world.voters, 0);
            BigInteger below = BigInteger.TEN.pow(n());
            BigInteger g = above.gcd(below);
            return (part == 0 ? above : below).divide(g).intValueExact();
        }

        int count(int what) {
            if (what < 0 || what > 9) return OUTSIDE;
            return new int[] {n(), world.day, laws.cap, laws.inches, Arrays.stream(world.water).sum(), content(world),
                world.last, seen.size(), past.size(), text.length()}[what];
        }
    }

    // ---- random runs

    private static int wrong = 0;
    private static long calls = 0;
    private static final int[] asked = new int[22];

    private final Random random;
    private final int seed;
    private final RainBallot real = new RainBallot();
    private final Model model = new Model();
    private final StringBuilder log = new StringBuilder();
    private int made = 0;
    private boolean off = false;

    private ModelTest(int seed) {
        this.seed = seed;
        random = new Random(seed);
    }

    private void due(String call, int got, int want) {
        made++;
        calls++;
        if (log.length() < 20000) log.append(call).append(" -> ").append(got).append('\n');
        if (got == want) return;
        wrong++;
        off = true;
        if (wrong <= 3) System.out.println("run " + seed + ":\n" + log + "  .. due is " + want);
    }

    private int pick(int... of) { return of[random.nextInt(of.length)]; }
    private boolean chance(int percent) { return random.nextInt(100) < percent; }

    /** Mostly within the bounds, at times at them, now and then beyond. */
    private int near(int least, int most) {
        int roll = random.nextInt(100);
        if (roll < 3) return least - 1;
        if (roll < 6) return most + 1;
        if (roll < 7) return pick(Integer.MIN_VALUE, Integer.MAX_VALUE, -100, 1000, -5, 32, 64);
        if (roll < 17) return least;
        if (roll < 27) return most;
        return least + random.nextInt(Math.max(1, most - least + 1));
    }

    private int anyStreet() { return near(0, model.n() - 1); }

    private void write(String text) {
        for (char c : text.toCharArray()) {
            due("write(" + (int) c + ")", real.write(c), model.write(c));
        }
    }

    private String blank(int percent) { return chance(percent) ? " " : ""; }

    private int streetsToBe;

    private String clause() {
        int roll = random.nextInt(100);
        if (roll < 2) {
            streetsToBe = 0;
            return "town";
        }
        if (roll < 10) return "cap" + blank(80) + near(5, 99);
        if (roll < 18) return "inches" + blank(80) + near(1, 20);
        if (roll < 45 && streetsToBe > 1) {
            int from = random.nextInt(streetsToBe);
            return "slope" + blank(80) + from + " " + (from + 1 + random.nextInt(streetsToBe - 1)) % streetsToBe;
        }
        streetsToBe++;
        String kind = new String[] {"garden", "garden", "orchard", "alley", "laundry", "laundry"}[random.nextInt(6)];
        int most = pick(5, 10, 20);
        return kind + blank(80) + random.nextInt(most + 1) + " " + random.nextInt(most + 1) + " "
            + (chance(80) ? random.nextInt(12) : random.nextInt(100));
    }

    private String goodText(int clauses) {
        StringBuilder text = new StringBuilder();
        streetsToBe = model.n();
        for (int i = 0; i < clauses; i++) {
            text.append(i == 0 ? blank(5) : ";" + blank(5)).append(clause());
        }
        return text.append(blank(5)).toString();
    }

    private String spoilt(String text) {
        StringBuilder spoilt = new StringBuilder(text);
        int at = random.nextInt(text.length() + 1);
        String with = new String[] {" ", ";", "0", "1", "99", "100", "007", "a", "town", "G", "\t", ",", "-", "slope 0",
            "garden", ((char) 0) + "", ((char) 200) + ""}[random.nextInt(17)];
        if (chance(50) && at < text.length()) spoilt.deleteCharAt(at);
        if (chance(70)) spoilt.insert(at, with);
        return spoilt.toString();
    }

    private void tell() {
        String text = goodText(pick(1, 2, 4, 5, 6, 7, 8));
        if (chance(25)) text = spoilt(text);
        if (text.length() + made > 470) return;
        if (model.text.length() > 0 && chance(70)) due("erase()", real.erase(), model.erase());
        write(text);
        due("fault()", real.fault(), model.fault());
        if (chance(90)) due("town()", real.town(), model.town());
    }

    private void call() {
        int roll = random.nextInt(22);
        asked[roll]++;
        int s = anyStreet();
        switch (roll) {
            case 0: { int l = near(0, 255); due("write(" + l + ")", real.write(l), model.write(l)); break; }
            case 1: if (chance(30)) due("erase()", real.erase(), model.erase()); break;
            case 2: due("fault()", real.fault(), model.fault()); break;
            case 3: if (chance(30)) due("town()", real.town(), model.town()); break;
            case 4: { int w = near(0, 6); due("street(" + s + ", " + w + ")", real.street(s, w), model.street(s, w)); break; }
            case 5: { int k = near(0, 4); due("as(" + s + ", " + k + ")", real.as(s, k), model.as(s, k)); break; }
            case 6: case 21: due("day()", real.day(), model.day()); break;
            case 7: { int w = near(1, 20); due("hose(" + s + ", " + w + ")", real.hose(s, w), model.hose(s, w)); break; }
            case 8: { int v = near(0, 20); due("poll(" + s + ", " + v + ")", real.poll(s, v), model.poll(s, v)); break; }
            case 9: due("undo()", real.undo(), model.undo()); break;
            case 10: { int k = near(0, 1); due("keep(" + k + ")", real.keep(k), model.keep(k)); break; }
            case 11: { int k = near(0, 1); due("back(" + k + ")", real.back(k), model.back(k)); break; }
            case 12: { int n = near(1, 30); due("where(" + n + ")", real.where(n), model.where(n)); break; }
            case 13: { int n = near(0, 30); due("wet(" + s + ", " + n + ")", real.wet(s, n), model.wet(s, n)); break; }
            case 14: due("carry(" + s + ")", real.carry(s), model.carry(s)); break;
            case 15: due("reach(" + s + ")", real.reach(s), model.reach(s)); break;
            case 16: { int n = near(1, chance(20) ? 4 : 3), k = near(-1, 3);
                due("month(" + n + ", " + k + ")", real.month(n, k), model.month(n, k)); break; }
            case 17: { int n = near(1, 20), where = chance(70) ? likely(n) : near(-1, model.n() - 1);
                due("seen(" + where + ", " + n + ")", real.seen(where, n), model.seen(where, n)); break; }
            case 18: if (chance(30)) due("forget()", real.forget(), model.forget()); break;
            case 19: due("polls(" + s + ")", real.polls(s), model.polls(s)); break;
            case 20: { int w = chance(30) ? NONE : s, q = near(0, 10), p = near(0, 1);
                due("chance(" + w + ", " + q + ", " + p + ")", real.chance(w, q, p), model.chance(w, q, p)); break; }
            default: break;
        }
    }

    private int likely(int n) { return Math.max(NONE, model.where(Math.min(20, Math.max(1, n)))); }

    /** All that can be seen of it. */
    private void look() {
        for (int what = 0; what <= 9; what++) due("count(" + what + ")", real.count(what), model.count(what));
        for (int s = 0; s < model.n(); s++) {
            for (int what = 0; what <= 6; what++) {
                due("street(" + s + ", " + what + ")", real.street(s, what), model.street(s, what));
            }
        }
    }

    private void run() {
        tell();
        while (made < 430 && !off) {
            call();
            if (chance(2)) tell();
            if (chance(3) && made < 440) look();
            int what = near(0, 9);
            due("count(" + what + ")", real.count(what), model.count(what));
        }
    }

    public static void main(String[] args) {
        int runs = args.length > 0 ? Integer.parseInt(args[0]) : 1500;
        int from = args.length > 1 ? Integer.parseInt(args[1]) : 0;
        for (int seed = from; seed < from + runs && wrong < 3; seed++) new ModelTest(seed).run();
        System.out.println(runs + " runs, " + calls + " calls, " + wrong + " answers are not as due");
        if (wrong != 0) System.exit(1);
    }
}

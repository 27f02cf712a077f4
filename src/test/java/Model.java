import java.util.ArrayDeque;
import java.util.ArrayList;
import java.util.Deque;
import java.util.List;
import java.util.regex.Matcher;
import java.util.regex.Pattern;

/**
 * The document told a second time, on other ways where there are any: a regular expression reads the tape, ways and
 * subsets are counted one by one, kinds are classes that override one another.
 */
final class Model {
    static final int NONE = -1000000, BAD = -1000001, STATE = -1000002, FULL = -1000003;

    /** A town's people and law; copied whole ahead of each act. */
    static final class World {
        int unit, rate, quarter;
        List<long[]> people = new ArrayList<>(); // CASH, INCOME, hedge, failed, painted (-1: not)
        long[][] owes = new long[7][7];

        World copied() {
            World w = new World();
            w.unit = unit;
            w.rate = rate;
            w.quarter = quarter;
            for (long[] p : people) {
                w.people.add(p.clone());
            }
            for (int i = 0; i < 7; i++) {
                w.owes[i] = owes[i].clone();
            }
            return w;
        }

        int n() {
            return people.size();
        }

        int owed(int p) {
            int sum = 0;
            for (long d : owes[p]) {
                sum += d;
            }
            return sum;
        }

        int owedTo(int p) {
            int sum = 0;
            for (long[] row : owes) {
                sum += row[p];
            }
            return sum;
        }

        int shade(int p) {
            return Math.min(9, owed(p) / unit);
        }

        int looks(int p) {
            long painted = people.get(p)[4];
            return painted >= 0 ? (int) painted : shade(p);
        }

        boolean toPay(int p) {
            boolean paid = false;
            for (int b = 0; b < n(); b++) {
                while (owes[p][b] > 0 && people.get(p)[0] > 0) {
                    long n = Math.min(owes[p][b], people.get(p)[0]);
                    owes[p][b] -= n;
                    people.get(p)[0] -= n;
                    people.get(b)[0] += n;
                    paid = true;
                }
            }
            return paid;
        }
    }

    // the kinds, as classes
    interface Sized {
        World w();
        int p();
        List<Integer> trace();

        default int size() {
            trace().add(10);
            return (int) w().people.get(p())[0];
        }

        default int mark() {
            trace().add(20);
            return p();
        }
    }

    static class Person implements Sized {
        final World w;
        final int p;
        final List<Integer> trace;

        Person(World w, int p, List<Integer> trace) {
            this.w = w;
            this.p = p;
            this.trace = trace;
        }

        public World w() {
            return w;
        }

        public int p() {
            return p;
        }

        public List<Integer> trace() {
            return trace;
        }
    }

    static class Debtor extends Person {
        Debtor(World w, int p, List<Integer> t) {
            super(w, p, t);
        }

        public int size() {
            trace.add(11);
            return super.size() + mark();
        }

        public int mark() {
            trace.add(21);
            return super.mark() + w.owed(p);
        }
    }

    static class Red extends Debtor {
        Red(World w, int p, List<Integer> t) {
            super(w, p, t);
        }

        public int mark() {
            trace.add(22);
            return super.mark() - 1000;
        }
    }

    static class Failed extends Red {
        Failed(World w, int p, List<Integer> t) {
            super(w, p, t);
        }

        public int size() {
            trace.add(12);
            return 0 - super.size();
        }

        public int mark() {
            trace.add(24);
            return super.mark() * 2;
        }
    }

    static class Free extends Person {
        Free(World w, int p, List<Integer> t) {
            super(w, p, t);
        }

        public int size() {
            trace.add(13);
            return super.size() - 100;
        }

        public int mark() {
            trace.add(23);
            return super.mark() - size();
        }
    }

    static class Lender extends Free {
        Lender(World w, int p, List<Integer> t) {
            super(w, p, t);
        }

        public int size() {
            trace.add(14);
            return super.size() * 2;
        }
    }

    private static final List<Class<?>> KINDS =
            List.of(Person.class, Debtor.class, Red.class, Failed.class, Free.class, Lender.class);

    private final Object[] rows = new Object[8]; // byte[], short[], int[] or null
    private StringBuilder tape = new StringBuilder();
    private World world;
    private final Deque<World> acts = new ArrayDeque<>();
    private final World[] images = new World[2];
    private List<Integer> trace = new ArrayList<>();
    private int fault, status;

    private boolean none(int p) {
        return world == null || p < 0 || p >= world.n();
    }

    private int find(int number) {
        status = number;
        return -1000010 - number;
    }

    private int well(int answer) {
        status = 0;
        return answer;
    }

    private static int length(Object row) {
        return java.lang.reflect.Array.getLength(row);
    }

    int row(int r, int lane, int n) {
        if (r < 0 || r > 7 || lane < 0 || lane > 2 || n > 40) return BAD;
        if (n < 0) return find(4);
        rows[r] = lane == 0 ? new byte[n] : lane == 1 ? new short[n] : (Object) new int[n];
        return well(n);
    }

    int set(int r, int i, int v) {
        if (r < 0 || r > 7) return BAD;
        if (rows[r] == null) return find(1);
        if (i < 0 || i >= length(rows[r])) return find(2);
        if (rows[r] instanceof byte[] b) return well(b[i] = (byte) v);
        if (rows[r] instanceof short[] s) return well(s[i] = (short) v);
        return well(((int[]) rows[r])[i] = v);
    }

    int copy(int a, int i, int b, int j, int n) {
        if (a < 0 || a > 7 || b < 0 || b > 7) return BAD;
        try {
            System.arraycopy(rows[a], i, rows[b], j, n);
        } catch (NullPointerException e) {
            return find(1);
        } catch (ArrayStoreException e) {
            return find(5);
        } catch (IndexOutOfBoundsException e) {
            return find(2);
        }
        return well(n);
    }

    int drop(int r) {
        if (r < 0 || r > 7) return BAD;
        if (rows[r] == null) return find(1);
        int n = length(rows[r]);
        rows[r] = null;
        return well(n);
    }

    int feed(long w, int n) {
        if (n < 1 || n > 8) return BAD;
        if (tape.length() + n > 400) return FULL;
        byte[] all = java.nio.ByteBuffer.allocate(8).putLong(w).array();
        for (int k = 8 - n; k < 8; k++) {
            tape.append((char) (all[k] & 255));
        }
        return tape.length();
    }

    private static final Pattern TOKEN = Pattern.compile("[ \n]*(?:([a-z]+)|([0-9]+)|(;)|($)|([\\x00-\\xff]))");

    /** A fault on its way out. */
    private static final class Fault extends RuntimeException {
        private static final long serialVersionUID = 1;
        final int place, number;

        Fault(int place, int number) {
            this.place = place;
            this.number = number;
        }
    }

    private List<String> words;
    private List<Integer> places;
    private int at;

    private void tokens(String text) {
        words = new ArrayList<>();
        places = new ArrayList<>();
        at = 0;
        Matcher m = TOKEN.matcher(text);
        int from = 0;
        while (true) {
            m.region(from, text.length());
            if (!m.lookingAt()) throw new IllegalStateException();
            for (int g = 1; g <= 5; g++) {
                if (m.group(g) != null) {
                    words.add(g == 2 && m.group(g).length() > 3 ? "?" : g == 5 ? "?" : m.group(g));
                    places.add(m.start(g));
                }
            }
            if (m.group(4) != null) return;
            from = m.end();
        }
    }

    private void word(String... any) {
        if (!List.of(any).contains(words.get(at))) throw new Fault(places.get(at), 1);
        at++;
    }

    private int number(int least, int most, int not) {
        if (!words.get(at).matches("[0-9]+")) throw new Fault(places.get(at), 1);
        int v = Integer.parseInt(words.get(at));
        if (v < least || v > most || v == not) throw new Fault(places.get(at), 2);
        at++;
        return v;
    }

    private World parsed(String text) {
        tokens(text);
        World w = new World();
        word("law");
        w.unit = number(1, 20, -1);
        w.rate = number(0, 20, -1);
        word(";");
        do {
            if (w.n() == 7 && words.get(at).equals("person")) throw new Fault(places.get(at), 3);
            word("person");
            long cash = number(0, 999, -1);
            long income = number(0, 99, -1);
            long hedge = words.get(at).equals("hedge") ? 1 : 0;
            word("open", "hedge");
            word(";");
            w.people.add(new long[] {cash, income, hedge, 0, -1});
        } while (words.get(at).equals("person"));
        int debts = 0;
        while (words.get(at).equals("owes")) {
            if (debts++ == 20) throw new Fault(places.get(at), 3);
            word("owes");
            int a = number(0, w.n() - 1, -1);
            int b = number(0, w.n() - 1, a);
            w.owes[a][b] += number(1, 999, -1);
            word(";");
        }
        word("");
        return w;
    }

    int town() {
        String text = tape.toString();
        tape = new StringBuilder();
        try {
            world = parsed(text);
        } catch (Fault f) {
            fault = f.number;
            return -1000100 - f.place;
        }
        acts.clear();
        return world.n();
    }

    int fault() {
        return fault;
    }

    private void act() {
        acts.addLast(world.copied());
        if (acts.size() > 24) acts.removeFirst();
    }

    int loan(int a, int b, int n) {
        if (none(a) || none(b) || a == b || n < 1 || n > 999) return BAD;
        if (world.people.get(b)[0] < n) return STATE;
        if (world.owes[a][b] + n > 99999) return FULL;
        act();
        world.people.get(b)[0] -= n;
        world.people.get(a)[0] += n;
        return (int) (world.owes[a][b] += n);
    }

    int pay(int a, int b, int n) {
        if (none(a) || none(b) || a == b || n < 1 || n > 99999) return BAD;
        if (world.owes[a][b] < n || world.people.get(a)[0] < n) return STATE;
        act();
        world.people.get(a)[0] -= n;
        world.people.get(b)[0] += n;
        return (int) (world.owes[a][b] -= n);
    }

    int paint(int p, int v) {
        if (none(p) || v < 0 || v > 9) return BAD;
        int looked = world.looks(p);
        act();
        world.people.get(p)[4] = v;
        return looked;
    }

    int hedge(int p, int is) {
        if (none(p) || is < 0 || is > 1) return BAD;
        int was = (int) world.people.get(p)[2];
        act();
        world.people.get(p)[2] = is;
        return was;
    }

    int quarter(int seed) {
        if (world == null) return STATE;
        if (seed < 0 || seed > 999999) return BAD;
        if (world.quarter == 999) return FULL;
        act();
        World w = world;
        w.quarter++;
        long x = seed;
        for (long[] p : w.people) {
            if (seed > 0) {
                x = x * 16807 % 2147483647L;
                p[0] += x % (p[1] + 1);
            } else {
                p[0] += p[1];
            }
        }
        boolean[] owedAhead = new boolean[w.n()];
        boolean[] paid = new boolean[w.n()];
        for (int p = 0; p < w.n(); p++) owedAhead[p] = w.owed(p) > 0;
        for (int p = 0; p < w.n(); p++) paid[p] = w.toPay(p);
        for (int p = 0; p < w.n(); p++) {
            if (owedAhead[p] && !paid[p]) w.people.get(p)[3] = 1;
            if (w.owed(p) == 0) w.people.get(p)[3] = 0;
            w.people.get(p)[4] = -1;
        }
        for (long[] row : w.owes) {
            for (int b = 0; b < 7; b++) {
                if (w.quarter % 9 == 0) {
                    if (row[b] < w.unit) row[b] = 0;
                } else {
                    row[b] = Math.min(99999, row[b] + row[b] * w.rate / 100);
                }
            }
        }
        return w.quarter;
    }

    int undo() {
        if (acts.isEmpty()) return STATE;
        world = acts.removeLast();
        return acts.size();
    }

    int person(int p, int what) {
        if (none(p)) return BAD;
        long[] him = world.people.get(p);
        if (what >= 10 && what - 10 < world.n()) return (int) world.owes[p][what - 10];
        return switch (what) {
            case 0, 1 -> (int) him[what];
            case 2 -> world.owed(p);
            case 3 -> world.shade(p);
            case 4 -> world.looks(p);
            case 5 -> (int) him[2];
            case 6 -> (int) him[3];
            case 7 -> world.owedTo(p) - world.owed(p);
            default -> BAD;
        };
    }

    int fits(int r, int i, int m) {
        if (r < 0 || r > 7 || m < 0 || m > 3) return BAD;
        if (rows[r] == null) return find(1);
        if (i < 0 || (long) i + 6 > length(rows[r])) return find(2);
        int[] told = new int[6];
        for (int k = 0; k < 6; k++) {
            told[k] = ((Number) java.lang.reflect.Array.get(rows[r], i + k)).intValue();
            if (k < 3 ? told[k] < 0 || told[k] > 9 : told[k] < -9 || told[k] > 9) return BAD;
        }
        int ways = 0;
        int[] d = new int[6];
        while (true) {
            int[] by = {d[0] + d[1], d[2] + d[3], d[4] + d[5]};
            int[] to = {d[2] + d[4], d[0] + d[5], d[1] + d[3]};
            boolean all = true;
            for (int k = 0; k < 3; k++) {
                all &= Math.min(by[k], 9) == told[k] && to[k] - by[k] == told[3 + k];
            }
            ways += all ? 1 : 0;
            int k = 0;
            while (k < 6 && d[k] == m) d[k++] = 0;
            if (k == 6) return well(ways);
            d[k]++;
        }
    }

    int hiding(int what) {
        if (world == null) return STATE;
        if (what != 0 && what != 1) return BAD;
        World w = world.copied();
        int struck = 0, paler = 0;
        for (int a = 0; a < w.n(); a++) {
            for (int b = 0; b < w.n(); b++) {
                long less = Math.min(world.owes[a][b], world.owes[b][a]);
                w.owes[a][b] -= less;
                struck += less;
            }
        }
        for (int p = 0; p < w.n(); p++) {
            if (w.shade(p) < world.shade(p)) paler |= 1 << p;
        }
        return what == 0 ? paler : struck;
    }

    /** The least coin for so many, over all sets of people; -1: there are not so many. */
    private long least(int many) {
        long best = -1;
        for (int set = 0; set < 1 << world.n(); set++) {
            if (Integer.bitCount(set) != many) continue;
            long sum = 0;
            for (int p = 0; p < world.n(); p++) {
                if ((set >> p & 1) == 0) continue;
                int shade = world.shade(p);
                if (shade == 0) {
                    sum = -1;
                    break;
                }
                sum += world.owed(p) - (shade * world.unit - 1);
            }
            if (sum >= 0 && (best < 0 || sum < best)) best = sum;
        }
        return best;
    }

    int clear(int c) {
        if (world == null) return STATE;
        if (c < 0 || c > 999999) return BAD;
        int most = 0;
        for (int k = 1; k <= world.n(); k++) {
            long sum = least(k);
            if (sum >= 0 && sum <= c) most = k;
        }
        return most;
    }

    int coin(int k) {
        if (world == null) return STATE;
        if (k < 0 || k > 7) return BAD;
        long sum = k > world.n() ? -1 : least(k);
        return sum < 0 ? NONE : (int) sum;
    }

    int run(int t, int what) {
        if (world == null) return STATE;
        if (t < 1 || t > 9 || what < 0 || what > 2) return BAD;
        World w = world.copied();
        boolean[] called = new boolean[7];
        boolean[] lacks = new boolean[7];
        boolean more = false;
        for (int p = 0; p < w.n(); p++) {
            called[p] = w.people.get(p)[2] == 0 && w.looks(p) >= t;
            more |= called[p];
        }
        int rounds = 0;
        while (more) {
            more = false;
            rounds++;
            boolean[] next = called.clone();
            for (int p = 0; p < w.n(); p++) {
                if (!called[p]) continue;
                w.toPay(p);
                lacks[p] = w.owed(p) > 0;
                for (int b = 0; b < w.n(); b++) {
                    if (lacks[p] && w.owes[p][b] > 0) next[b] = true;
                }
            }
            more = !java.util.Arrays.equals(next, called);
            called = next;
        }
        return what == 0 ? rounds : bits(what == 1 ? lacks : called);
    }

    private static int bits(boolean[] of) {
        int set = 0;
        for (int p = 0; p < of.length; p++) set |= of[p] ? 1 << p : 0;
        return set;
    }

    int cheats() {
        if (world == null) return STATE;
        boolean[] they = new boolean[7];
        for (int p = 0; p < world.n(); p++) they[p] = world.looks(p) < world.shade(p);
        return bits(they);
    }

    int walk(int a, int b) {
        if (none(a) || none(b) || a > b) return BAD;
        int best = NONE;
        for (int p = b; p >= a; p--) {
            if (world.people.get(p)[2] == 0 && (best == NONE || world.looks(p) <= world.looks(best))) best = p;
        }
        return best;
    }

    int image(int k) {
        if (k != 0 && k != 1) return BAD;
        if (world == null) return STATE;
        images[k] = world.copied();
        return 1;
    }

    int restore(int k) {
        if (k != 0 && k != 1) return BAD;
        if (images[k] == null) return STATE;
        world = images[k].copied();
        acts.clear();
        return 1;
    }

    private Person taken(int p, List<Integer> into) {
        if (world.people.get(p)[3] == 1) return new Failed(world, p, into);
        if (world.shade(p) >= 7) return new Red(world, p, into);
        if (world.owed(p) > 0) return new Debtor(world, p, into);
        if (world.owedTo(p) > 0) return new Lender(world, p, into);
        return new Free(world, p, into);
    }

    int kind(int p) {
        return none(p) ? BAD : KINDS.indexOf(taken(p, trace).getClass());
    }

    int as(int p, int kind) {
        if (none(p) || kind < 0 || kind > 5) return BAD;
        return KINDS.get(kind).isInstance(taken(p, trace)) ? well(p) : find(3);
    }

    int ask(int p, int what) {
        if (none(p) || what < 0 || what > 1) return BAD;
        trace = new ArrayList<>();
        Person him = taken(p, trace);
        return what == 0 ? him.size() : him.mark();
    }

    int trace(int i) {
        return i < 0 || i >= Math.min(16, trace.size()) ? NONE : trace.get(i);
    }

    int count(int what) {
        int sum = 0;
        switch (what) {
            case 0:
                for (Object r : rows) sum += r == null ? 0 : 1;
                return sum;
            case 1:
                return world == null ? 0 : world.n();
            case 2:
                if (world == null) return 0;
                for (long[] row : world.owes) for (long d : row) sum += d > 0 ? 1 : 0;
                return sum;
            case 3:
                return world == null ? 0 : world.quarter;
            case 4:
                return acts.size();
            case 5:
                if (world == null) return 0;
                for (long[] p : world.people) sum += p[0];
                return sum;
            case 6:
                return tape.length();
            default:
                return BAD;
        }
    }

    int status() {
        return status;
    }
}

import java.util.ArrayList;
import java.util.List;
import java.util.regex.Matcher;
import java.util.regex.Pattern;

/**
 * The document told a second time, without a thought for speed or for LANGUAGE.md: every TURN of a bout is
 * kept in a list, an image is a copy of everything, a text is cut by a pattern. ModelTest holds the class to it.
 */
final class Model {
    private static final int BEYOND = -1000000001, FULL = -1000000002, KIND = -1000000003, NONE = -1000000004,
            STATE = -1000000005, MISSING = -1000000006, SIZE = -1000000007;
    private static final Pattern TOKEN = Pattern.compile("[a-z]+|[0-9]+|[<>:;-]");

    private record Rule(String name, char sign, int number, String deed) {
        boolean isTrue(int s, int l, int e, int t) {
            int v = switch (name) {
                case "turn" -> s;
                case "lean" -> l;
                case "left" -> e;
                case "tick" -> t;
                default -> 0;
            };
            return name.equals("else") || (sign == '<' && v < number) || (sign == '>' && v > number);
        }
    }

    /** kind, weight, lag, reach, strength, falls, way. */
    private record One(int[] d) {
        One copyOf() {
            return new One(d.clone());
        }

        One with(int what, int v) {
            One o = copyOf();
            o.d[what] = v;
            return o;
        }
    }

    private final class Bout {
        final One[] who;
        final List<Integer> turns = new ArrayList<>(List.of(0));
        final int[] feet = {0, 0}, lean = {0, 0}, left;
        int z;
        int outcome = 0;

        Bout(One a, One b, int z) {
            who = new One[] {a, b};
            left = new int[] {a.d[4], b.d[4]};
            this.z = z;
        }

        int ticks() {
            return turns.size() - 1;
        }

        int turn() {
            return turns.get(ticks());
        }

        int sees(int i) {
            int t = ticks() - who[i].d[2];
            return t < 0 ? 0 : turns.get(t);
        }

        int paid(int i) {
            int p = pushOf(who[i], sees(i), lean[i], left[i], ticks());
            return left[i] < cost(p) ? 0 : p;
        }

        void tick() {
            int[] p = {paid(0), paid(1)};
            int[] s = {sees(0), sees(1)};
            int[] w = {who[0].d[1], who[1].d[1]};
            left[0] -= cost(p[0]);
            left[1] -= cost(p[1]);
            int turn = turn() + (p[0] * w[0] + p[1] * w[1]) / (log[0] * log[0] + w[0] + w[1]);
            turn = turn - turn * (log[1] + log[2]) / 100;
            for (int i = 0; i < 2; i++) {
                z = (int) ((long) z * 1103515245L + 12345L);
                boolean slips = (z >>> 8) % 100 < log[4];
                if (!slips) {
                    int off = s[i] - feet[i];
                    feet[i] += Integer.signum(off) * Math.min(Math.abs(off), who[i].d[3]);
                }
            }
            for (int i = 0; i < 2; i++) {
                lean[i] = lean[i] + (turn - feet[i]) / 4;
                lean[i] = lean[i] - lean[i] / 8;
                if (Math.abs(lean[i]) > log[3]) {
                    outcome += 1 + i;
                }
            }
            turns.add(turn);
        }

        Bout upTo(int n) {
            while (n > 0 && outcome == 0) {
                tick();
                n--;
            }
            return this;
        }
    }

    private static int cost(int p) {
        return p == 0 ? 0 : 1 + Math.abs(p) / 10;
    }

    private List<One> people = new ArrayList<>();
    private List<List<Rule>> ways = new ArrayList<>();
    private int[] log = {15, 5, 3, 60, 0};
    private int[] on = null;
    private Bout bout = null;
    private int turn = 0, ticks = 0, z = 1, latest = 0;
    private StringBuilder tape = new StringBuilder();
    private final long[][] sheets = new long[4][];
    private final int[] bits = new int[4];
    private Model kept = null;
    private final int[] found = new int[7];

    private int finding(int f) {
        found[-(f + 1000000001)]++;
        return f;
    }

    private static boolean in(int v, int a, int b) {
        return a <= v && v <= b;
    }

    private boolean no(int person) {
        return !in(person, 0, people.size() - 1);
    }

    private boolean noPair(int a, int b) {
        return no(a) || no(b) || a == b;
    }

    private static boolean odd(int s, int l, int e, int t) {
        return !(in(s, -9999, 9999) && in(l, -999, 999) && in(e, 0, 999) && in(t, 0, 999));
    }

    private static int limited(int v, int reach) {
        return Math.max(-reach, Math.min(reach, v));
    }

    private int pushOf(One o, int s, int l, int e, int t) {
        int reach = o.d[3];
        int check = limited(-(s / 2), reach);
        int wait = t <= 19 || e < 1 ? 0 : reach / 3;
        switch (o.d[0]) {
            case 0:
                return 0;
            case 1:
                return e >= 2 ? reach : 0;
            case 2:
                return check;
            case 3:
                return Math.abs(s) >= 5 ? check : -reach;
            case 4:
                return wait;
            default:
                if (o.d[6] < 0) {
                    return wait;
                }
                for (Rule r : ways.get(o.d[6])) {
                    if (r.isTrue(s, l, e, t)) {
                        return switch (r.deed) {
                            case "run" -> reach;
                            case "check" -> check;
                            case "back" -> -reach;
                            case "hop" -> limited(-(l / 2), reach);
                            default -> 0;
                        };
                    }
                }
                return 0;
        }
    }

    public int roller(int kind, int weight) {
        if (!in(kind, 0, 5) || !in(weight, 1, 299)) {
            return finding(BEYOND);
        }
        if (people.size() == 8) {
            return finding(FULL);
        }
        people.add(new One(new int[] {kind, weight, 2, 20, 300, 0, -1}));
        return people.size() - 1;
    }

    public int of(int person, int what) {
        return no(person) || !in(what, 0, 6) ? finding(BEYOND) : people.get(person).d[what];
    }

    public int set(int person, int what, int v) {
        int[][] ranges = {{1, 0}, {1, 299}, {0, 9}, {1, 99}, {0, 999}, {1, 0}, {-1, ways.size() - 1}};
        if (no(person) || !in(what, 0, 6) || !in(v, ranges[what][0], ranges[what][1])) {
            return finding(BEYOND);
        }
        if (on != null && (on[0] == person || on[1] == person)) {
            return finding(STATE);
        }
        int was = people.get(person).d[what];
        people.get(person).d[what] = v;
        return was;
    }

    public int as(int person, int kind) {
        if (no(person) || !in(kind, 0, 5)) {
            return finding(BEYOND);
        }
        int mine = people.get(person).d[0];
        boolean is = kind == 0 || mine == kind || (kind == 2 && mine == 3) || (kind == 4 && mine == 5);
        return is ? people.get(person).d[5] : finding(KIND);
    }

    public int log(int what, int v) {
        int[][] ranges = {{1, 99}, {0, 50}, {0, 50}, {0, 999}, {0, 100}};
        if (!in(what, 0, 4) || !in(v, ranges[what][0], ranges[what][1])) {
            return finding(BEYOND);
        }
        int was = log[what];
        log[what] = v;
        return was;
    }

    public int push(int person, int s, int l, int e, int t) {
        return no(person) || odd(s, l, e, t) ? finding(BEYOND) : pushOf(people.get(person), s, l, e, t);
    }

    public int mount(int first, int second) {
        if (noPair(first, second)) {
            return finding(BEYOND);
        }
        if (on != null) {
            return finding(STATE);
        }
        on = new int[] {first, second};
        bout = new Bout(people.get(first), people.get(second), z);
        turn = 0;
        ticks = 0;
        return 1;
    }

    public int off() {
        if (on == null) {
            return finding(STATE);
        }
        on = null;
        return ticks;
    }

    public int bout(int n) {
        if (!in(n, 1, 400)) {
            return finding(BEYOND);
        }
        if (on == null) {
            return finding(STATE);
        }
        bout.z = z;
        bout.upTo(n);
        z = bout.z;
        turn = bout.turn();
        ticks = bout.ticks();
        if (bout.outcome == 0) {
            return 0;
        }
        latest = bout.outcome;
        for (int i = 0; i < 2; i++) {
            people.get(on[i]).d[5] += (latest >> i) & 1;
        }
        on = null;
        return latest;
    }

    public int stands(int who, int what) {
        if (!in(who, 0, 1) || !in(what, 0, 5)) {
            return finding(BEYOND);
        }
        if (on == null) {
            return finding(STATE);
        }
        return new int[] {on[who], bout.feet[who], bout.lean[who], bout.left[who], bout.sees(who), bout.paid(who)}[what];
    }

    public int now(int what) {
        return in(what, 0, 2) ? new int[] {turn, ticks, latest}[what] : finding(BEYOND);
    }

    public int seed(int v) {
        int was = z;
        z = v;
        return was;
    }

    private Bout fresh(One a, int b, int n) {
        return new Bout(a, people.get(b), z).upTo(n);
    }

    public int ahead(int a, int b, int n, int what) {
        if (noPair(a, b) || !in(n, 1, 200) || !in(what, 0, 4)) {
            return finding(BEYOND);
        }
        Bout x = fresh(people.get(a), b, n);
        return new int[] {x.outcome, x.ticks(), x.turn(), x.lean[0], x.left[0]}[what];
    }

    public int best(int a, int b, int n) {
        if (noPair(a, b) || !in(n, 1, 200)) {
            return finding(BEYOND);
        }
        for (int ticks = 1; ticks <= n; ticks++) {
            for (int kind = 0; kind < 6; kind++) {
                if (fresh(people.get(a).with(0, kind), b, ticks).outcome == 2) {
                    return kind;
                }
            }
        }
        return finding(NONE);
    }

    public int light(int a, int b, int n) {
        if (noPair(a, b) || !in(n, 1, 100)) {
            return finding(BEYOND);
        }
        for (int weight = 1; weight <= 299; weight++) {
            if (fresh(people.get(a).with(1, weight), b, n).outcome == 2) {
                return weight;
            }
        }
        return finding(NONE);
    }

    public int late(int a, int b, int n) {
        if (noPair(a, b) || !in(n, 1, 200)) {
            return finding(BEYOND);
        }
        int greatest = -1;
        for (int lag = 0; lag <= 9; lag++) {
            if (fresh(people.get(a).with(2, lag), b, n).outcome % 2 == 0) {
                greatest = lag;
            }
        }
        return greatest < 0 ? finding(NONE) : greatest;
    }

    public int swing(int a, int b, int n, int what) {
        if (noPair(a, b) || !in(n, 2, 200) || !in(what, 0, 2)) {
            return finding(BEYOND);
        }
        int[] most = {0, 0};
        Bout x = new Bout(people.get(a), people.get(b), z);
        while (x.ticks() < n && x.outcome == 0) {
            x.tick();
            int half = x.ticks() <= n / 2 ? 0 : 1;
            most[half] = Math.max(most[half], Math.abs(x.lean[0]));
        }
        return what < 2 ? most[what] : most[1] > most[0] ? 1 : 0;
    }

    private int beaten(int person, int n) {
        int set = 0;
        for (int b = 0; b < people.size(); b++) {
            if (b != person && fresh(people.get(person), b, n).outcome == 2) {
                set += 1 << b;
            }
        }
        return set;
    }

    public int beats(int person, int n) {
        return no(person) || !in(n, 1, 100) ? finding(BEYOND) : beaten(person, n);
    }

    public int five(int a, int b, int n) {
        if (noPair(a, b) || !in(n, 1, 100)) {
            return finding(BEYOND);
        }
        int wins = 0;
        int losses = 0;
        int going = z;
        for (int i = 0; i < 5; i++) {
            Bout x = new Bout(people.get(a), people.get(b), going).upTo(n);
            going = x.z;
            wins += x.outcome >> 1;
            losses += x.outcome & 1;
            if (wins == 3 && losses == 3) {
                return 0;
            }
            if (wins == 3) {
                return 1;
            }
            if (losses == 3) {
                return 2;
            }
        }
        return 0;
    }

    public int champion(int n) {
        if (!in(n, 1, 50)) {
            return finding(BEYOND);
        }
        for (int many = 8; many >= 0; many--) {
            for (int p = 0; p < people.size(); p++) {
                if (Integer.bitCount(beaten(p, n)) == many) {
                    return p;
                }
            }
        }
        return finding(NONE);
    }

    public int feed(int bytes, int n) {
        if (!in(n, 1, 4)) {
            return finding(BEYOND);
        }
        if (tape.length() + n > 100) {
            return finding(FULL);
        }
        for (int i = n - 1; i >= 0; i--) {
            tape.append((char) ((bytes >> (8 * i)) & 255));
        }
        return tape.length();
    }

    public int wipe() {
        int had = tape.length();
        tape.setLength(0);
        return had;
    }

    /** Letters stand for what may come: N name, C < or >, M - or a number, D number, : and E deed, ; or the end. */
    public int way() {
        if (ways.size() == 6) {
            return finding(FULL);
        }
        String text = tape.toString();
        tape.setLength(0);
        List<Rule> made = new ArrayList<>();
        char due = 'N';
        String name = "";
        char sign = ' ';
        int factor = 1;
        int number = 0;
        int at = 0;
        while (true) {
            while (at < text.length() && text.charAt(at) == ' ') {
                at++;
            }
            if (at == text.length()) {
                if (due != ';') {
                    return -1 - at;
                }
                ways.add(made);
                return ways.size() - 1;
            }
            Matcher m = TOKEN.matcher(text).region(at, text.length());
            if (!m.lookingAt()) {
                return -1 - at;
            }
            String token = m.group();
            char c = token.charAt(0);
            if (due == 'N' && made.size() < 6 && List.of("turn", "lean", "left", "tick", "else").contains(token)) {
                name = token;
                due = token.equals("else") ? ':' : 'C';
                factor = 1;
                number = 0;
            } else if (due == 'C' && (c == '<' || c == '>')) {
                sign = c;
                due = 'M';
            } else if (due == 'M' && c == '-') {
                factor = -1;
                due = 'D';
            } else if ((due == 'M' || due == 'D') && Character.isDigit(c) && new java.math.BigInteger(token).bitLength() < 20
                    && Integer.parseInt(token) <= 999) {
                number = factor * Integer.parseInt(token);
                due = ':';
            } else if (due == ':' && c == ':') {
                due = 'E';
            } else if (due == 'E' && List.of("run", "check", "back", "wait", "hop").contains(token)) {
                made.add(new Rule(name, sign, number, token));
                due = ';';
            } else if (due == ';' && c == ';') {
                due = 'N';
            } else {
                return -1 - at;
            }
            at = m.end();
        }
    }

    public int rules(int way) {
        return in(way, 0, ways.size() - 1) ? ways.get(way).size() : finding(BEYOND);
    }

    public int holds(int way, int s, int l, int e, int t) {
        if (!in(way, 0, ways.size() - 1) || odd(s, l, e, t)) {
            return finding(BEYOND);
        }
        for (int i = 0; i < ways.get(way).size(); i++) {
            if (ways.get(way).get(i).isTrue(s, l, e, t)) {
                return i;
            }
        }
        return finding(NONE);
    }

    public int sheet(int s, int b, int n) {
        if (!in(s, 0, 3) || !List.of(0, 8, 16, 64).contains(b)) {
            return finding(BEYOND);
        }
        if (n < 0) {
            return finding(SIZE);
        }
        if (n > 40) {
            return finding(BEYOND);
        }
        bits[s] = b;
        sheets[s] = b == 0 ? null : new long[n];
        return b == 0 ? 0 : n;
    }

    private long cut(int s, long v) {
        return v << (64 - bits[s]) >> (64 - bits[s]);
    }

    public long write(int s, int i, long v) {
        if (!in(s, 0, 3)) {
            return finding(BEYOND);
        }
        if (sheets[s] == null) {
            return finding(MISSING);
        }
        if (!in(i, 0, sheets[s].length - 1)) {
            return finding(BEYOND);
        }
        long was = sheets[s][i];
        sheets[s][i] = cut(s, v);
        return was;
    }

    public int copy(int s, int from, int t, int to, int n) {
        if (!in(s, 0, 3) || !in(t, 0, 3)) {
            return finding(BEYOND);
        }
        if (sheets[s] == null || sheets[t] == null) {
            return finding(MISSING);
        }
        if (bits[s] != bits[t]) {
            return finding(KIND);
        }
        if (from < 0 || to < 0 || n < 0 || (long) from + n > sheets[s].length || (long) to + n > sheets[t].length) {
            return finding(BEYOND);
        }
        long[] were = sheets[s].clone();
        for (int i = 0; i < n; i++) {
            sheets[t][to + i] = were[from + i];
        }
        return n;
    }

    public int film(int s, int a, int b) {
        if (!in(s, 0, 3)) {
            return finding(BEYOND);
        }
        if (sheets[s] == null) {
            return finding(MISSING);
        }
        if (noPair(a, b)) {
            return finding(BEYOND);
        }
        Bout x = fresh(people.get(a), b, sheets[s].length);
        for (int i = 0; i < x.ticks(); i++) {
            sheets[s][i] = cut(s, x.turns.get(i + 1));
        }
        return x.ticks();
    }

    public int read(int s, int a, int b) {
        if (!in(s, 0, 3)) {
            return finding(BEYOND);
        }
        if (sheets[s] == null) {
            return finding(MISSING);
        }
        if (noPair(a, b)) {
            return finding(BEYOND);
        }
        Bout x = fresh(people.get(a), b, sheets[s].length);
        for (int i = 0; i < sheets[s].length; i++) {
            if (i >= x.ticks() || sheets[s][i] != x.turns.get(i + 1)) {
                return 1 + i;
            }
        }
        return 0;
    }

    private static void copyState(Model from, Model to) {
        to.people = new ArrayList<>();
        for (One o : from.people) {
            to.people.add(o.copyOf());
        }
        to.ways = new ArrayList<>(from.ways);
        to.log = from.log.clone();
        to.on = from.on == null ? null : from.on.clone();
        to.turn = from.turn;
        to.ticks = from.ticks;
        to.z = from.z;
        to.latest = from.latest;
        to.bout = null;
        if (from.on != null) {
            Bout old = from.bout;
            to.bout = to.new Bout(to.people.get(from.on[0]), to.people.get(from.on[1]), old.z);
            to.bout.turns.clear();
            to.bout.turns.addAll(old.turns);
            for (int i = 0; i < 2; i++) {
                to.bout.feet[i] = old.feet[i];
                to.bout.lean[i] = old.lean[i];
                to.bout.left[i] = old.left[i];
            }
        }
    }

    public int image() {
        kept = new Model();
        copyState(this, kept);
        return 1;
    }

    public int undo() {
        if (kept == null) {
            return finding(NONE);
        }
        copyState(kept, this);
        return people.size();
    }

    public int tear() {
        int was = kept == null ? 0 : 1;
        kept = null;
        return was;
    }

    public int count(int what) {
        int falls = people.stream().mapToInt(o -> o.d[5]).sum();
        return in(what, 0, 5) ? new int[] {people.size(), ways.size(), on == null ? 0 : 1, falls, tape.length(), z}[what] : finding(BEYOND);
    }

    public int status(int which) {
        if (!in(which, -1, 6)) {
            return finding(BEYOND);
        }
        return which < 0 ? java.util.Arrays.stream(found).sum() : found[which];
    }
}

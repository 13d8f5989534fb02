/**
 * Two on a log: people of kinds, the log in its pond, bouts tick by tick, bouts ahead,
 * ways told in rules, sheets of numbers, and an image of it all.
 */
public final class LogRollers {
    private static final int BEYOND = -1000000001;
    private static final int FULL = -1000000002;
    private static final int KIND = -1000000003;
    private static final int NONE = -1000000004;
    private static final int STATE = -1000000005;
    private static final int MISSING = -1000000006;
    private static final int SIZE = -1000000007;
    private static final int FINDINGS = 7;

    private static final int MOST_PEOPLE = 8;
    private static final int MOST_WAYS = 6;
    private static final int MOST_RULES = 6;
    private static final int MOST_BYTES = 100;
    private static final int MOST_NUMBERS = 40;
    private static final int SHEETS = 4;

    private static final int ROLLER = 0;
    private static final int RUNNER = 1;
    private static final int CHECKER = 2;
    private static final int REVERSER = 3;
    private static final int WAITER = 4;
    private static final int WAYED = 5;
    private static final int[] KIND_ABOVE = {-1, ROLLER, ROLLER, CHECKER, ROLLER, WAITER};

    private static final int OF_KIND = 0;
    private static final int OF_WEIGHT = 1;
    private static final int OF_LAG = 2;
    private static final int OF_REACH = 3;
    private static final int OF_STRENGTH = 4;
    private static final int OF_FALLS = 5;
    private static final int OF_WAY = 6;
    private static final int MOST_WEIGHT = 299;
    private static final int MOST_LAG = 9;
    private static final int MOST_REACH = 99;
    private static final int MOST_STRENGTH = 999;

    private static final int THICK = 0;
    private static final int WATER = 1;
    private static final int BARK = 2;
    private static final int LINE = 3;
    private static final int SLIPS = 4;
    private static final int PARTS = 5;
    private static final int[] PART_AT_FIRST = {15, 5, 3, 60, 0};
    private static final int[] PART_LEAST = {1, 0, 0, 0, 0};
    private static final int[] PART_MOST = {99, 50, 50, 999, 100};

    private static final int NOBODY_FELL = 0;
    private static final int FIRST_FELL = 1;
    private static final int SECOND_FELL = 2;
    private static final int BOTH_FELL = 3;

    private static final int NAME_TURN = 0;
    private static final int NAME_LEAN = 1;
    private static final int NAME_LEFT = 2;
    private static final int NAME_TICK = 3;
    private static final int NAME_ELSE = 4;

    private static final int DEED_RUN = 0;
    private static final int DEED_CHECK = 1;
    private static final int DEED_BACK = 2;
    private static final int DEED_WAIT = 3;
    private static final int DEED_HOP = 4;

    private final World world = new World();
    private final World kept = new World();
    private boolean isKept = false;
    /** The other log, on which bouts ahead go: it has the parts and the ways of the real one. */
    private final Match other = new Match(world.parts, world.ways);
    /** One of the people with one thing about him changed, for the searches. */
    private final Person trial = new Person();
    private final Tape tape = new Tape();
    private final Sheet[] sheets = new Sheet[SHEETS];
    private final int[] found = new int[FINDINGS];

    public LogRollers() {
        for (int i = 0; i < SHEETS; i++) {
            sheets[i] = new Sheet();
        }
    }

    // ---- people, the log

    public int roller(int kind, int weight) {
        if (!isKind(kind) || !within(weight, 1, MOST_WEIGHT)) {
            return finding(BEYOND);
        }
        if (world.peopleCount >= MOST_PEOPLE) {
            return finding(FULL);
        }
        int number = world.peopleCount;
        world.people[number].begin(kind, weight);
        world.peopleCount++;
        return number;
    }

    public int of(int person, int what) {
        if (!isPerson(person) || !within(what, OF_KIND, OF_WAY)) {
            return finding(BEYOND);
        }
        return world.people[person].trait(what);
    }

    public int set(int person, int what, int v) {
        if (!isPerson(person) || !maySet(what, v)) {
            return finding(BEYOND);
        }
        if (world.isOnLog(person)) {
            return finding(STATE);
        }
        int was = world.people[person].trait(what);
        world.people[person].change(what, v);
        return was;
    }

    public int as(int person, int kind) {
        if (!isPerson(person) || !isKind(kind)) {
            return finding(BEYOND);
        }
        if (!isUnder(world.people[person].kind, kind)) {
            return finding(KIND);
        }
        return world.people[person].falls;
    }

    public int log(int what, int v) {
        if (!within(what, 0, PARTS - 1) || !within(v, PART_LEAST[what], PART_MOST[what])) {
            return finding(BEYOND);
        }
        int was = world.parts[what];
        world.parts[what] = v;
        return was;
    }

    public int push(int person, int s, int l, int e, int t) {
        if (!isPerson(person) || !isSituation(s, l, e, t)) {
            return finding(BEYOND);
        }
        Person one = world.people[person];
        return one.shove(world.wayAt(one.way), s, l, e, t);
    }

    // ---- bouts

    public int mount(int first, int second) {
        if (!isPair(first, second)) {
            return finding(BEYOND);
        }
        if (world.isOccupied) {
            return finding(STATE);
        }
        world.first = first;
        world.second = second;
        world.isOccupied = true;
        world.match.begin(world.people[first], world.people[second]);
        return 1;
    }

    public int off() {
        if (!world.isOccupied) {
            return finding(STATE);
        }
        world.isOccupied = false;
        return world.match.ticks;
    }

    public int bout(int n) {
        if (!within(n, 1, 400)) {
            return finding(BEYOND);
        }
        if (!world.isOccupied) {
            return finding(STATE);
        }
        Person first = world.people[world.first];
        Person second = world.people[world.second];
        int outcome = world.match.go(first, second, n);
        if (outcome != NOBODY_FELL) {
            endBout(first, second, outcome);
        }
        return outcome;
    }

    public int stands(int who, int what) {
        if (!within(who, 0, 1) || !within(what, 0, 5)) {
            return finding(BEYOND);
        }
        if (!world.isOccupied) {
            return finding(STATE);
        }
        int number = who == 0 ? world.first : world.second;
        Stander stander = who == 0 ? world.match.first : world.match.second;
        Person person = world.people[number];
        switch (what) {
            case 0:
                return number;
            case 1:
                return stander.feet;
            case 2:
                return stander.lean;
            case 3:
                return stander.left;
            case 4:
                return world.match.seenBy(person);
            default:
                return world.match.nextShove(person, stander);
        }
    }

    public int now(int what) {
        switch (what) {
            case 0:
                return world.match.turn;
            case 1:
                return world.match.ticks;
            case 2:
                return world.latestOutcome;
            default:
                return finding(BEYOND);
        }
    }

    public int seed(int v) {
        int was = world.match.z;
        world.match.z = v;
        return was;
    }

    // ---- ahead

    public int ahead(int a, int b, int n, int what) {
        if (!isPair(a, b) || !within(n, 1, 200) || !within(what, 0, 4)) {
            return finding(BEYOND);
        }
        startAhead(world.people[a], world.people[b]);
        int outcome = other.go(world.people[a], world.people[b], n);
        switch (what) {
            case 0:
                return outcome;
            case 1:
                return other.ticks;
            case 2:
                return other.turn;
            case 3:
                return other.first.lean;
            default:
                return other.first.left;
        }
    }

    public int best(int a, int b, int n) {
        if (!isPair(a, b) || !within(n, 1, 200)) {
            return finding(BEYOND);
        }
        int bestKind = -1;
        int fewest = 0;
        trial.takeFrom(world.people[a]);
        for (int kind = ROLLER; kind <= WAYED; kind++) {
            trial.kind = kind;
            startAhead(trial, world.people[b]);
            boolean wins = other.go(trial, world.people[b], n) == SECOND_FELL;
            if (wins && (bestKind < 0 || other.ticks < fewest)) {
                bestKind = kind;
                fewest = other.ticks;
            }
        }
        return bestKind < 0 ? finding(NONE) : bestKind;
    }

    public int light(int a, int b, int n) {
        if (!isPair(a, b) || !within(n, 1, 100)) {
            return finding(BEYOND);
        }
        trial.takeFrom(world.people[a]);
        for (int weight = 1; weight <= MOST_WEIGHT; weight++) {
            trial.weight = weight;
            startAhead(trial, world.people[b]);
            if (other.go(trial, world.people[b], n) == SECOND_FELL) {
                return weight;
            }
        }
        return finding(NONE);
    }

    public int late(int a, int b, int n) {
        if (!isPair(a, b) || !within(n, 1, 200)) {
            return finding(BEYOND);
        }
        trial.takeFrom(world.people[a]);
        for (int lag = MOST_LAG; lag >= 0; lag--) {
            trial.lag = lag;
            startAhead(trial, world.people[b]);
            int outcome = other.go(trial, world.people[b], n);
            if (outcome == NOBODY_FELL || outcome == SECOND_FELL) {
                return lag;
            }
        }
        return finding(NONE);
    }

    public int swing(int a, int b, int n, int what) {
        if (!isPair(a, b) || !within(n, 2, 200) || !within(what, 0, 2)) {
            return finding(BEYOND);
        }
        int half = n / 2;
        int early = 0;
        int behind = 0;
        int outcome = NOBODY_FELL;
        startAhead(world.people[a], world.people[b]);
        for (int tick = 0; tick < n && outcome == NOBODY_FELL; tick++) {
            outcome = other.tick(world.people[a], world.people[b]);
            int lean = Math.abs(other.first.lean);
            if (tick < half) {
                early = Math.max(early, lean);
            } else {
                behind = Math.max(behind, lean);
            }
        }
        if (what == 2) {
            return behind > early ? 1 : 0;
        }
        return what == 0 ? early : behind;
    }

    public int beats(int person, int n) {
        if (!isPerson(person) || !within(n, 1, 100)) {
            return finding(BEYOND);
        }
        return beatenBy(person, n);
    }

    public int five(int a, int b, int n) {
        if (!isPair(a, b) || !within(n, 1, 100)) {
            return finding(BEYOND);
        }
        int winsOfA = 0;
        int winsOfB = 0;
        other.z = world.match.z;
        for (int i = 0; i < 5 && winsOfA < 3 && winsOfB < 3; i++) {
            other.begin(world.people[a], world.people[b]);
            int outcome = other.go(world.people[a], world.people[b], n);
            if (outcome == SECOND_FELL || outcome == BOTH_FELL) {
                winsOfA++;
            }
            if (outcome == FIRST_FELL || outcome == BOTH_FELL) {
                winsOfB++;
            }
        }
        if (winsOfA >= 3) {
            return winsOfB >= 3 ? 0 : 1;
        }
        return winsOfB >= 3 ? 2 : 0;
    }

    public int champion(int n) {
        if (!within(n, 1, 50)) {
            return finding(BEYOND);
        }
        if (world.peopleCount == 0) {
            return finding(NONE);
        }
        int champion = 0;
        int most = -1;
        for (int person = 0; person < world.peopleCount; person++) {
            int beaten = Integer.bitCount(beatenBy(person, n));
            if (beaten > most) {
                champion = person;
                most = beaten;
            }
        }
        return champion;
    }

    // ---- ways

    public int feed(int bytes, int n) {
        if (!within(n, 1, 4)) {
            return finding(BEYOND);
        }
        if (tape.size + n > MOST_BYTES) {
            return finding(FULL);
        }
        for (int i = n - 1; i >= 0; i--) {
            tape.addByte(bytes >>> (8 * i) & 255);
        }
        return tape.size;
    }

    public int wipe() {
        int had = tape.size;
        tape.size = 0;
        return had;
    }

    public int way() {
        if (world.wayCount >= MOST_WAYS) {
            return finding(FULL);
        }
        Way made = tape.toWay();
        tape.size = 0;
        if (made == null) {
            return -1 - tape.start;
        }
        int number = world.wayCount;
        world.ways[number] = made;
        world.wayCount++;
        return number;
    }

    public int rules(int way) {
        Way told = world.wayAt(way);
        if (told == null) {
            return finding(BEYOND);
        }
        return told.size;
    }

    public int holds(int way, int s, int l, int e, int t) {
        Way told = world.wayAt(way);
        if (told == null || !isSituation(s, l, e, t)) {
            return finding(BEYOND);
        }
        int rule = told.firstThat(s, l, e, t);
        return rule < 0 ? finding(NONE) : rule;
    }

    // ---- sheets

    public int sheet(int s, int bits, int n) {
        boolean isWidth = bits == 0 || bits == 8 || bits == 16 || bits == 64;
        if (!isSheet(s) || !isWidth) {
            return finding(BEYOND);
        }
        if (n < 0) {
            return finding(SIZE);
        }
        if (n > MOST_NUMBERS) {
            return finding(BEYOND);
        }
        sheets[s].begin(bits, bits == 0 ? 0 : n);
        return sheets[s].size;
    }

    public long write(int s, int i, long v) {
        if (!isSheet(s)) {
            return finding(BEYOND);
        }
        if (sheets[s].isMissing()) {
            return finding(MISSING);
        }
        if (!within(i, 0, sheets[s].size - 1)) {
            return finding(BEYOND);
        }
        long was = sheets[s].numbers[i];
        sheets[s].put(i, v);
        return was;
    }

    public int copy(int s, int from, int t, int to, int n) {
        if (!isSheet(s) || !isSheet(t)) {
            return finding(BEYOND);
        }
        if (sheets[s].isMissing() || sheets[t].isMissing()) {
            return finding(MISSING);
        }
        if (sheets[s].bits != sheets[t].bits) {
            return finding(KIND);
        }
        if (!sheets[s].hasRow(from, n) || !sheets[t].hasRow(to, n)) {
            return finding(BEYOND);
        }
        System.arraycopy(sheets[s].numbers, from, sheets[t].numbers, to, n);
        return n;
    }

    public int film(int s, int a, int b) {
        int refused = sheetFinding(s, a, b);
        if (refused != 0) {
            return finding(refused);
        }
        Sheet into = sheets[s];
        int done = 0;
        int outcome = NOBODY_FELL;
        startAhead(world.people[a], world.people[b]);
        while (done < into.size && outcome == NOBODY_FELL) {
            outcome = other.tick(world.people[a], world.people[b]);
            into.put(done, other.turn);
            done++;
        }
        return done;
    }

    public int read(int s, int a, int b) {
        int refused = sheetFinding(s, a, b);
        if (refused != 0) {
            return finding(refused);
        }
        Sheet told = sheets[s];
        int outcome = NOBODY_FELL;
        startAhead(world.people[a], world.people[b]);
        for (int i = 0; i < told.size; i++) {
            if (outcome != NOBODY_FELL) {
                return 1 + i;
            }
            outcome = other.tick(world.people[a], world.people[b]);
            if (told.numbers[i] != other.turn) {
                return 1 + i;
            }
        }
        return 0;
    }

    // ---- images

    public int image() {
        kept.takeFrom(world);
        isKept = true;
        return 1;
    }

    public int undo() {
        if (!isKept) {
            return finding(NONE);
        }
        world.takeFrom(kept);
        return world.peopleCount;
    }

    public int tear() {
        int was = isKept ? 1 : 0;
        isKept = false;
        return was;
    }

    public int count(int what) {
        switch (what) {
            case 0:
                return world.peopleCount;
            case 1:
                return world.wayCount;
            case 2:
                return world.isOccupied ? 1 : 0;
            case 3:
                return world.allFalls();
            case 4:
                return tape.size;
            case 5:
                return world.match.z;
            default:
                return finding(BEYOND);
        }
    }

    public int status(int which) {
        if (!within(which, -1, FINDINGS - 1)) {
            return finding(BEYOND);
        }
        if (which >= 0) {
            return found[which];
        }
        int all = 0;
        for (int i = 0; i < FINDINGS; i++) {
            all += found[i];
        }
        return all;
    }

    // ---- what the calls share

    /** Counts a finding and hands it on, so that no call can answer one uncounted. */
    private int finding(int which) {
        int place = BEYOND - which;
        if (within(place, 0, FINDINGS - 1)) {
            found[place]++;
        }
        return which;
    }

    private static boolean within(int v, int least, int most) {
        return v >= least && v <= most;
    }

    private static boolean isKind(int kind) {
        return within(kind, ROLLER, WAYED);
    }

    private static boolean isSheet(int s) {
        return within(s, 0, SHEETS - 1);
    }

    private boolean isPerson(int person) {
        return within(person, 0, world.peopleCount - 1);
    }

    private boolean isPair(int a, int b) {
        return isPerson(a) && isPerson(b) && a != b;
    }

    private static boolean isSituation(int s, int l, int e, int t) {
        return within(s, -9999, 9999) && within(l, -999, 999) && within(e, 0, 999) && within(t, 0, 999);
    }

    private boolean maySet(int what, int v) {
        switch (what) {
            case OF_WEIGHT:
                return within(v, 1, MOST_WEIGHT);
            case OF_LAG:
                return within(v, 0, MOST_LAG);
            case OF_REACH:
                return within(v, 1, MOST_REACH);
            case OF_STRENGTH:
                return within(v, 0, MOST_STRENGTH);
            case OF_WAY:
                return within(v, -1, world.wayCount - 1);
            default:
                return false;
        }
    }

    private static boolean isUnder(int kind, int above) {
        int at = kind;
        for (int i = 0; i <= WAYED && isKind(at); i++) {
            if (at == above) {
                return true;
            }
            at = KIND_ABOVE[at];
        }
        return false;
    }

    private void endBout(Person first, Person second, int outcome) {
        if (outcome == FIRST_FELL || outcome == BOTH_FELL) {
            first.falls++;
        }
        if (outcome == SECOND_FELL || outcome == BOTH_FELL) {
            second.falls++;
        }
        world.isOccupied = false;
        world.latestOutcome = outcome;
    }

    /** Two get on the other log, where z goes on from as it is here. */
    private void startAhead(Person first, Person second) {
        other.z = world.match.z;
        other.begin(first, second);
    }

    private int beatenBy(int person, int n) {
        int beaten = 0;
        Person one = world.people[person];
        for (int b = 0; b < world.peopleCount; b++) {
            if (b != person) {
                startAhead(one, world.people[b]);
                boolean wins = other.go(one, world.people[b], n) == SECOND_FELL;
                beaten |= wins ? 1 << b : 0;
            }
        }
        return beaten;
    }

    /** The finding with which film and read refuse, or 0. */
    private int sheetFinding(int s, int a, int b) {
        if (!isSheet(s)) {
            return BEYOND;
        }
        if (sheets[s].isMissing()) {
            return MISSING;
        }
        return isPair(a, b) ? 0 : BEYOND;
    }

    /** v, but no further from 0 than most. */
    private static int atMost(int v, int most) {
        if (v > most) {
            return most;
        }
        return v < -most ? -most : v;
    }

    private static final class Person {
        int kind;
        int weight;
        int lag;
        int reach;
        int strength;
        int falls;
        int way;

        void begin(int newKind, int newWeight) {
            kind = newKind;
            weight = newWeight;
            lag = 2;
            reach = 20;
            strength = 300;
            falls = 0;
            way = -1;
        }

        void takeFrom(Person from) {
            kind = from.kind;
            weight = from.weight;
            lag = from.lag;
            reach = from.reach;
            strength = from.strength;
            falls = from.falls;
            way = from.way;
        }

        int trait(int what) {
            switch (what) {
                case OF_KIND:
                    return kind;
                case OF_WEIGHT:
                    return weight;
                case OF_LAG:
                    return lag;
                case OF_REACH:
                    return reach;
                case OF_STRENGTH:
                    return strength;
                case OF_FALLS:
                    return falls;
                default:
                    return way;
            }
        }

        void change(int what, int v) {
            switch (what) {
                case OF_WEIGHT:
                    weight = v;
                    break;
                case OF_LAG:
                    lag = v;
                    break;
                case OF_REACH:
                    reach = v;
                    break;
                case OF_STRENGTH:
                    strength = v;
                    break;
                case OF_WAY:
                    way = v;
                    break;
                default:
                    break;
            }
        }

        /** PUSH by what he sees, his lean, what is left, and the tick; told is his way, or null. */
        int shove(Way told, int s, int l, int e, int t) {
            switch (kind) {
                case RUNNER:
                    return e >= 2 ? reach : 0;
                case CHECKER:
                    return atMost(-(s / 2), reach);
                case REVERSER:
                    return s >= 5 || s <= -5 ? atMost(-(s / 2), reach) : -reach;
                case WAITER:
                    return waiterShove(e, t);
                case WAYED:
                    return told == null ? waiterShove(e, t) : deedShove(told.deedOf(told.firstThat(s, l, e, t)), s, l);
                default:
                    return 0;
            }
        }

        private int waiterShove(int e, int t) {
            return t > 19 && e >= 1 ? reach / 3 : 0;
        }

        private int deedShove(int deed, int s, int l) {
            switch (deed) {
                case DEED_RUN:
                    return reach;
                case DEED_CHECK:
                    return atMost(-(s / 2), reach);
                case DEED_BACK:
                    return -reach;
                case DEED_HOP:
                    return atMost(-(l / 2), reach);
                default:
                    return 0;
            }
        }
    }

    /** A row of rules; it never changes once it is told, so an image may share it. */
    private static final class Way {
        int size = 0;
        private final int[] names = new int[MOST_RULES];
        private final int[] signs = new int[MOST_RULES];
        private final int[] bounds = new int[MOST_RULES];
        private final int[] deeds = new int[MOST_RULES];

        void addRule(int name, int sign, int bound, int deed) {
            if (size < MOST_RULES) {
                names[size] = name;
                signs[size] = sign;
                bounds[size] = bound;
                deeds[size] = deed;
                size++;
            }
        }

        /** The first rule that holds, or -1. */
        int firstThat(int s, int l, int e, int t) {
            for (int i = 0; i < size; i++) {
                int name = names[i];
                int value = name == NAME_TURN ? s : name == NAME_LEAN ? l : name == NAME_LEFT ? e : t;
                boolean isSo = signs[i] == '<' ? value < bounds[i] : value > bounds[i];
                if (isSo || name == NAME_ELSE) {
                    return i;
                }
            }
            return -1;
        }

        int deedOf(int rule) {
            return within(rule, 0, size - 1) ? deeds[rule] : DEED_WAIT;
        }
    }

    /** What one has while he is on a log. */
    private static final class Stander {
        int feet;
        int lean;
        int left;
        int sight;
        int shove;

        void begin(int strength) {
            feet = 0;
            lean = 0;
            left = strength;
        }

        void takeFrom(Stander from) {
            feet = from.feet;
            lean = from.lean;
            left = from.left;
        }

        static int cost(int shove) {
            return shove == 0 ? 0 : Math.abs(shove) / 10 + 1;
        }

        void decide(int sees, int pushes) {
            sight = sees;
            shove = pushes;
            left -= cost(pushes);
        }

        void step(int reach) {
            feet += atMost(sight - feet, reach);
        }

        void sway(int turn) {
            lean += (turn - feet) / 4;
            lean -= lean / 8;
        }
    }

    /** A bout on a log; the latest one, once it is over. */
    private static final class Match {
        /** As far back as the greatest lag goes, and the tick itself. */
        private static final int TURNS_KEPT = MOST_LAG + 1;

        private final int[] parts;
        private final Way[] ways;
        private final int[] turnAheadOf = new int[TURNS_KEPT];
        final Stander first = new Stander();
        final Stander second = new Stander();
        int turn = 0;
        int ticks = 0;
        int z = 1;

        Match(int[] parts, Way[] ways) {
            this.parts = parts;
            this.ways = ways;
        }

        void takeFrom(Match from) {
            for (int i = 0; i < TURNS_KEPT; i++) {
                turnAheadOf[i] = from.turnAheadOf[i];
            }
            first.takeFrom(from.first);
            second.takeFrom(from.second);
            turn = from.turn;
            ticks = from.ticks;
            z = from.z;
        }

        void begin(Person a, Person b) {
            first.begin(a.strength);
            second.begin(b.strength);
            turn = 0;
            ticks = 0;
            turnAheadOf[0] = 0;
        }

        /** At most n ticks: the outcome. */
        int go(Person a, Person b, int n) {
            int outcome = NOBODY_FELL;
            for (int i = 0; i < n && outcome == NOBODY_FELL; i++) {
                outcome = tick(a, b);
            }
            return outcome;
        }

        int tick(Person a, Person b) {
            first.decide(seenBy(a), nextShove(a, first));
            second.decide(seenBy(b), nextShove(b, second));
            roll(a, b);
            // Both draws are made in any case and FIRST's first: z goes on the same way whoever slips.
            stepUnlessSlipping(a, first);
            stepUnlessSlipping(b, second);
            first.sway(turn);
            second.sway(turn);
            ticks++;
            turnAheadOf[Math.floorMod(ticks, TURNS_KEPT)] = turn;
            int firstFell = Math.abs(first.lean) > parts[LINE] ? FIRST_FELL : NOBODY_FELL;
            int secondFell = Math.abs(second.lean) > parts[LINE] ? SECOND_FELL : NOBODY_FELL;
            return firstFell + secondFell;
        }

        private void roll(Person a, Person b) {
            int mass = parts[THICK] * parts[THICK] + a.weight + b.weight;
            if (mass > 0) {
                turn += (first.shove * a.weight + second.shove * b.weight) / mass;
            }
            turn -= turn * (parts[WATER] + parts[BARK]) / 100;
        }

        private void stepUnlessSlipping(Person person, Stander stander) {
            z = z * 1103515245 + 12345;
            if ((z >>> 8) % 100 >= parts[SLIPS]) {
                stander.step(person.reach);
            }
        }

        /** What he sees in the next tick. */
        int seenBy(Person person) {
            int at = ticks - person.lag;
            return at < 0 ? 0 : turnAheadOf[at % TURNS_KEPT];
        }

        /** His push in the next tick: 0 if he can't pay for it. */
        int nextShove(Person person, Stander stander) {
            Way told = within(person.way, 0, MOST_WAYS - 1) ? ways[person.way] : null;
            int shove = person.shove(told, seenBy(person), stander.lean, stander.left, ticks);
            return stander.left < Stander.cost(shove) ? 0 : shove;
        }
    }

    /** All that an image keeps. */
    private static final class World {
        final Person[] people = new Person[MOST_PEOPLE];
        int peopleCount = 0;
        final Way[] ways = new Way[MOST_WAYS];
        int wayCount = 0;
        final int[] parts = PART_AT_FIRST.clone();
        final Match match = new Match(parts, ways);
        boolean isOccupied = false;
        int first = 0;
        int second = 0;
        int latestOutcome = NOBODY_FELL;

        World() {
            for (int i = 0; i < MOST_PEOPLE; i++) {
                people[i] = new Person();
            }
        }

        void takeFrom(World from) {
            for (int i = 0; i < MOST_PEOPLE; i++) {
                people[i].takeFrom(from.people[i]);
            }
            peopleCount = from.peopleCount;
            for (int i = 0; i < MOST_WAYS; i++) {
                ways[i] = from.ways[i];
            }
            wayCount = from.wayCount;
            for (int i = 0; i < PARTS; i++) {
                parts[i] = from.parts[i];
            }
            match.takeFrom(from.match);
            isOccupied = from.isOccupied;
            first = from.first;
            second = from.second;
            latestOutcome = from.latestOutcome;
        }

        boolean isOnLog(int person) {
            return isOccupied && (person == first || person == second);
        }

        /** A way by its number, or null. */
        Way wayAt(int number) {
            return within(number, 0, wayCount - 1) ? ways[number] : null;
        }

        int allFalls() {
            int all = 0;
            for (int i = 0; i < peopleCount; i++) {
                all += people[i].falls;
            }
            return all;
        }
    }

    /** Bytes, and the token of them that is being looked at while they are read as a way. */
    private static final class Tape {
        /** Kinds of tokens that are no signs; a sign is its own kind, by its byte. */
        private static final int END = -1;
        private static final int WORD = -2;
        private static final int NUMBER = -3;
        private static final int UNFIT = -4;

        private final int[] bytes = new int[MOST_BYTES];
        int size = 0;
        /** Where the token begins: the place of the FAULT, once toWay() has found one. */
        int start = 0;
        private int end = 0;
        private int token = END;
        private int value = 0;

        void addByte(int b) {
            if (size < MOST_BYTES) {
                bytes[size] = b;
                size++;
            }
        }

        /** The way that the bytes tell; null with a FAULT, at the token that is looked at then. */
        Way toWay() {
            Way made = new Way();
            end = 0;
            nextToken();
            for (int i = 0; i < MOST_RULES; i++) {
                if (!takeRule(made)) {
                    return null;
                }
                if (token == END) {
                    return made;
                }
                if (token != ';') {
                    return null;
                }
                nextToken();
            }
            return null;
        }

        private boolean takeRule(Way made) {
            int name = nameHere();
            if (name < 0) {
                return false;
            }
            nextToken();
            int sign = token;
            int bound = 0;
            if (name != NAME_ELSE) {
                if (!takeComparison()) {
                    return false;
                }
                bound = value;
            }
            if (token != ':') {
                return false;
            }
            nextToken();
            int deed = deedHere();
            if (deed < 0) {
                return false;
            }
            nextToken();
            made.addRule(name, sign, bound, deed);
            return true;
        }

        /** A sign < or >, and what is to be compared with: that is in value then. */
        private boolean takeComparison() {
            if (token != '<' && token != '>') {
                return false;
            }
            nextToken();
            boolean isNegative = token == '-';
            if (isNegative) {
                nextToken();
            }
            if (token != NUMBER) {
                return false;
            }
            int bound = isNegative ? -value : value;
            nextToken();
            value = bound;
            return true;
        }

        private void nextToken() {
            start = end;
            while (start < size && bytes[start] == ' ') {
                start++;
            }
            end = start;
            if (start >= size) {
                token = END;
            } else if (isLetter(bytes[start])) {
                takeWord();
            } else if (isDigit(bytes[start])) {
                takeNumber();
            } else {
                token = isSign(bytes[start]) ? bytes[start] : UNFIT;
                end = start + 1;
            }
        }

        private void takeWord() {
            while (end < size && isLetter(bytes[end])) {
                end++;
            }
            token = WORD;
        }

        private void takeNumber() {
            int number = 0;
            while (end < size && isDigit(bytes[end])) {
                number = Math.min(number * 10 + bytes[end] - '0', 1000);
                end++;
            }
            value = number;
            token = number > 999 ? UNFIT : NUMBER;
        }

        private static boolean isLetter(int b) {
            return b >= 'a' && b <= 'z';
        }

        private static boolean isDigit(int b) {
            return b >= '0' && b <= '9';
        }

        private static boolean isSign(int b) {
            return b == '<' || b == '>' || b == '-' || b == ':' || b == ';';
        }

        private int nameHere() {
            if (isWord("turn")) {
                return NAME_TURN;
            }
            if (isWord("lean")) {
                return NAME_LEAN;
            }
            if (isWord("left")) {
                return NAME_LEFT;
            }
            if (isWord("tick")) {
                return NAME_TICK;
            }
            return isWord("else") ? NAME_ELSE : -1;
        }

        private int deedHere() {
            if (isWord("run")) {
                return DEED_RUN;
            }
            if (isWord("check")) {
                return DEED_CHECK;
            }
            if (isWord("back")) {
                return DEED_BACK;
            }
            if (isWord("wait")) {
                return DEED_WAIT;
            }
            return isWord("hop") ? DEED_HOP : -1;
        }

        private boolean isWord(String word) {
            if (token != WORD || end - start != word.length()) {
                return false;
            }
            for (int i = 0; i < word.length(); i++) {
                if (bytes[start + i] != word.charAt(i)) {
                    return false;
                }
            }
            return true;
        }
    }

    private static final class Sheet {
        /** 0: the sheet is MISSING. */
        int bits = 0;
        int size = 0;
        final long[] numbers = new long[MOST_NUMBERS];

        void begin(int newBits, int newSize) {
            bits = newBits;
            size = newSize;
            for (int i = 0; i < MOST_NUMBERS; i++) {
                numbers[i] = 0L;
            }
        }

        boolean isMissing() {
            return bits == 0;
        }

        void put(int i, long v) {
            if (within(i, 0, size - 1)) {
                numbers[i] = bits == 8 ? (byte) v : bits == 16 ? (short) v : v;
            }
        }

        /** Whether it has n numbers from one on; told without a sum, which could go round. */
        boolean hasRow(int from, int n) {
            return from >= 0 && n >= 0 && from <= size && n <= size - from;
        }
    }
}

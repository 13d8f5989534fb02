import java.util.List;
import java.util.function.Supplier;

/** The sentences of promises 1 to 7, and of section 1, that name an edge: each has a test of its own. */
public final class PeopleEdgesTest {
    /** What, its least, its most, what it is of a new one. */
    private static final int[][] TRAITS = {{1, 1, 299, 80}, {2, 0, 9, 2}, {3, 1, 99, 20}, {4, 0, 999, 300}};
    private static final int[][] PARTS = {{0, 1, 99, 15}, {1, 0, 50, 5}, {2, 0, 50, 3}, {3, 0, 999, 60}, {4, 0, 100, 0}};

    public static void main(String[] args) {
        newHasNoPeople();
        newHasNoWays();
        newHasNobodyOnTheLog();
        newHasAnEmptyTape();
        newHasNoImage();
        newHasNoSheets();
        newHasTheLogAtFirst();
        objectsShareNothing();
        rollerKinds();
        rollerWeights();
        rollerOfANewOne();
        rollerFull();
        rollerBeyondAheadOfFull();
        rollerWhileOthersAreOn();
        ofPeople();
        ofWhats();
        ofCountsFalls();
        setRanges();
        setTakesOneThingAlone();
        setWays();
        setOtherWhats();
        setPeople();
        setStateOnTheLog();
        setBeyondAheadOfState();
        setOnceOffTheLog();
        asPeople();
        asKinds();
        asKindsAbove();
        asBeyondAheadOfKind();
        asTellsFalls();
        logRanges();
        logWhats();
        logWhileTheyAreOn();
        Check.end();
    }

    private static List<Supplier<LogRollers>> everywhere() {
        return List.of(Edge::fresh, Edge::three, Edge::crowd, Edge::onLog, Edge::full);
    }

    // ---- Promise 1: "No PEOPLE, WAYS; nobody is on THE LOG; THE TAPE is empty, no image is kept."

    private static void newHasNoPeople() {
        Edge.allowedAndIdle("count of PEOPLE", 0, Edge::fresh, x -> x.count(0));
        Edge.allowedAndIdle("FALLS of all", 0, Edge::fresh, x -> x.count(3));
        Edge.refused("of the first", Check.BEYOND, Edge::fresh, x -> x.of(0, 0));
        Edge.refused("set of the first", Check.BEYOND, Edge::fresh, x -> x.set(0, 1, 1));
        Edge.refused("the first as a ROLLER", Check.BEYOND, Edge::fresh, x -> x.as(0, 0));
        Edge.refused("push of the first", Check.BEYOND, Edge::fresh, x -> x.push(0, 0, 0, 0, 0));
        Edge.refused("beats of the first", Check.BEYOND, Edge::fresh, x -> x.beats(0, 1));
    }

    private static void newHasNoWays() {
        Edge.allowedAndIdle("count of WAYS", 0, Edge::fresh, x -> x.count(1));
        Edge.refused("rules of the first", Check.BEYOND, Edge::fresh, x -> x.rules(0));
        Edge.refused("holds of the first", Check.BEYOND, Edge::fresh, x -> x.holds(0, 0, 0, 0, 0));
    }

    private static void newHasNobodyOnTheLog() {
        Edge.allowedAndIdle("nobody is on it", 0, Edge::fresh, x -> x.count(2));
        Edge.allowedAndIdle("TURN", 0, Edge::fresh, x -> x.now(0));
        Edge.allowedAndIdle("TICKS", 0, Edge::fresh, x -> x.now(1));
        Edge.allowedAndIdle("OUTCOME without one", 0, Edge::fresh, x -> x.now(2));
        Edge.allowedAndIdle("z", 1, Edge::fresh, x -> x.count(5));
        Edge.refused("off", Check.STATE, Edge::fresh, LogRollers::off);
        Edge.refused("bout", Check.STATE, Edge::fresh, x -> x.bout(1));
        Edge.refused("stands", Check.STATE, Edge::fresh, x -> x.stands(0, 0));
    }

    private static void newHasAnEmptyTape() {
        Edge.allowedAndIdle("bytes of the tape", 0, Edge::fresh, x -> x.count(4));
        Edge.allowedAndIdle("wipe", 0, Edge::fresh, LogRollers::wipe);
        Edge.allowedAndIdle("the text ends at once", -1, Edge::fresh, LogRollers::way);
    }

    private static void newHasNoImage() {
        Edge.refused("undo", Check.NONE, Edge::fresh, LogRollers::undo);
        Edge.allowedAndIdle("tear", 0, Edge::fresh, LogRollers::tear);
    }

    private static void newHasNoSheets() {
        for (int s = 0; s < 4; s++) {
            int sheet = s;
            Edge.refused("sheet " + s, Check.MISSING, Edge::fresh, x -> x.write(sheet, 0, 0));
        }
    }

    private static void newHasTheLogAtFirst() {
        for (int[] p : PARTS) {
            Edge.allowed("part " + p[0] + " at first", p[3], Edge::fresh, x -> x.log(p[0], p[1]));
        }
    }

    private static void objectsShareNothing() {
        LogRollers one = Edge.onLog();
        LogRollers other = Edge.fresh();
        LogRollers another = Edge.onLog();
        other.sheet(0, 8, 40);
        other.write(0, 39, 1);
        other.log(0, 99);
        other.feed(0, 4);
        other.image();
        other.tear();
        other.of(9, 9);
        Check.due("findings of another", one.status(-1), another.status(-1));
        Edge.same("another object", Edge.world(one), Edge.world(another));
        Check.due("its tape", 8, one.wipe());
        Check.due("its sheet", -7, one.write(0, 39, 0));
        Check.due("its image", 1, one.tear());
    }

    // ---- Promise 2: roller

    private static void rollerKinds() {
        for (int kind = 0; kind <= 5; kind++) {
            int k = kind;
            Edge.allowed("roller of kind " + k, 3, Edge::three, x -> x.roller(k, 50));
            LogRollers x = Edge.three();
            x.roller(k, 50);
            Check.due("his kind", k, x.of(3, 0));
        }
        for (Supplier<LogRollers> setting : everywhere()) {
            for (int kind : Edge.outside(0, 5)) {
                Edge.refused("roller of kind " + kind, Check.BEYOND, setting, x -> x.roller(kind, 50));
            }
        }
    }

    private static void rollerWeights() {
        for (int weight : new int[] {1, 299}) {
            Edge.allowed("roller of weight " + weight, 3, Edge::three, x -> x.roller(0, weight));
            LogRollers x = Edge.three();
            x.roller(0, weight);
            Check.due("his weight", weight, x.of(3, 1));
        }
        for (Supplier<LogRollers> setting : everywhere()) {
            for (int weight : Edge.outside(1, 299)) {
                Edge.refused("roller of weight " + weight, Check.BEYOND, setting, x -> x.roller(0, weight));
            }
        }
    }

    /** "with a LAG of 2, a REACH of 20, a STRENGTH of 300", "FALLS (0 at first), a WAY (-1: none, at first)": the last one too. */
    private static void rollerOfANewOne() {
        LogRollers x = new LogRollers();
        for (int person = 0; person < 8; person++) {
            x.roller(person % 6, 100 + person);
            int[] due = {person % 6, 100 + person, 2, 20, 300, 0, -1};
            for (int what = 0; what < 7; what++) {
                Check.due("of a new one " + what, due[what], x.of(person, what));
            }
        }
    }

    /** "at most 8": the 8th gets the number 7, a 9th is refused. */
    private static void rollerFull() {
        LogRollers x = new LogRollers();
        for (int i = 0; i < 8; i++) {
            Check.due("number of the next", i, x.roller(0, 1));
            Check.due("as many there are", i + 1, x.count(0));
        }
        Check.due("none was refused", 0, x.status(-1));
        Edge.refused("a 9th", Check.FULL, Edge::crowd, y -> y.roller(0, 1));
        Edge.refused("a 9th with two on the log", Check.FULL, Edge::onLog, y -> y.roller(5, 299));
        Edge.refused("a 9th where all is full", Check.FULL, Edge::full, y -> y.roller(0, 1));
    }

    private static void rollerBeyondAheadOfFull() {
        Edge.refused("a 9th of no kind", Check.BEYOND, Edge::full, x -> x.roller(6, 1));
        Edge.refused("a 9th of no weight", Check.BEYOND, Edge::full, x -> x.roller(0, 0));
    }

    private static void rollerWhileOthersAreOn() {
        LogRollers x = Edge.three();
        x.mount(0, 1);
        x.bout(3);
        Check.due("a new one", 3, x.roller(4, 9));
        Check.due("TICKS stay", 3, x.now(1));
        Check.due("FIRST stays", 0, x.stands(0, 0));
    }

    // ---- Promise 3: of

    private static void ofPeople() {
        Edge.allowedAndIdle("of the last of three", 60, Edge::three, x -> x.of(2, 1));
        Edge.allowedAndIdle("of the last of eight", 110, Edge::crowd, x -> x.of(7, 1));
        for (int what = 0; what < 7; what++) {
            int w = what;
            for (int person : Edge.outside(0, 2)) {
                Edge.refused("of " + person, Check.BEYOND, Edge::three, x -> x.of(person, w));
            }
            for (int person : Edge.outside(0, 7)) {
                Edge.refused("of " + person, Check.BEYOND, Edge::onLog, x -> x.of(person, w));
            }
        }
    }

    private static void ofWhats() {
        Edge.allowedAndIdle("the first what", 5, Edge::three, x -> x.of(2, 0));
        Edge.allowedAndIdle("the last what", -1, Edge::three, x -> x.of(2, 6));
        for (int what : Edge.outside(0, 6)) {
            Edge.refused("what " + what, Check.BEYOND, Edge::three, x -> x.of(2, what));
            Edge.refused("what " + what + " of FIRST", Check.BEYOND, Edge::onLog, x -> x.of(7, what));
        }
    }

    private static void ofCountsFalls() {
        LogRollers x = Edge.bare(0);
        for (int falls = 0; falls < 4; falls++) {
            Check.due("FALLS of FIRST", falls, x.of(0, 5));
            Check.due("FALLS of SECOND", falls, x.of(1, 5));
            Check.due("FALLS of both", 2 * falls, x.count(3));
            x.mount(0, 1);
            x.bout(1);
        }
    }

    // ---- Promise 4: set

    private static void setRanges() {
        for (int[] t : TRAITS) {
            for (int v : new int[] {t[1], t[2]}) {
                Edge.allowed("what " + t[0] + " becomes " + v, t[3], Edge::three, x -> x.set(0, t[0], v));
                LogRollers x = Edge.three();
                x.set(0, t[0], v);
                Check.due("what " + t[0] + " is " + v, v, x.of(0, t[0]));
                Check.due("it was " + v, v, x.set(0, t[0], v));
            }
            for (int v : Edge.outside(t[1], t[2])) {
                Edge.refused("what " + t[0] + " becomes " + v, Check.BEYOND, Edge::three, x -> x.set(0, t[0], v));
                Edge.refused("what " + t[0] + " of the last becomes " + v, Check.BEYOND, Edge::crowd, x -> x.set(7, t[0], v));
            }
        }
    }

    private static void setTakesOneThingAlone() {
        for (int[] t : TRAITS) {
            LogRollers x = Edge.three();
            LogRollers as = Edge.three();
            x.set(1, t[0], t[1]);
            for (int person = 0; person < 3; person++) {
                for (int what = 0; what < 7; what++) {
                    boolean isIt = person == 1 && what == t[0];
                    Check.due("of " + person + " what " + what, isIt ? t[1] : as.of(person, what), x.of(person, what));
                }
            }
        }
    }

    /** "WAY (6; -1 or one that there is)". */
    private static void setWays() {
        Edge.allowed("no way", -1, Edge::three, x -> x.set(2, 6, -1));
        Edge.allowed("the last of six", -1, Edge::full, x -> x.set(7, 6, 5));
        Edge.allowed("the first of two", 1, Edge::crowd, x -> x.set(7, 6, 0));
        Edge.allowed("the last of two", 0, Edge::crowd, x -> x.set(5, 6, 1));
        Edge.allowed("none any more", 0, Edge::crowd, x -> x.set(5, 6, -1));
        for (int way : Edge.outside(-1, -1)) {
            Edge.refused("way " + way + " of none", Check.BEYOND, Edge::three, x -> x.set(2, 6, way));
        }
        for (int way : Edge.outside(-1, 1)) {
            Edge.refused("way " + way + " of two", Check.BEYOND, Edge::crowd, x -> x.set(5, 6, way));
        }
        for (int way : Edge.outside(-1, 5)) {
            Edge.refused("way " + way + " of six", Check.BEYOND, Edge::full, x -> x.set(7, 6, way));
        }
    }

    /** KIND (0) and FALLS (5) are not among what becomes v, whatever v is. */
    private static void setOtherWhats() {
        for (int what : new int[] {0, 5, -1, 7, Integer.MIN_VALUE, Integer.MAX_VALUE}) {
            for (int v : new int[] {-1, 0, 1, 2, 5, 300}) {
                Edge.refused("what " + what + " becomes " + v, Check.BEYOND, Edge::three, x -> x.set(0, what, v));
            }
            Edge.refused("what " + what + " of FIRST", Check.BEYOND, Edge::onLog, x -> x.set(7, what, 1));
        }
    }

    private static void setPeople() {
        for (int[] t : TRAITS) {
            Edge.refused("what " + t[0] + " of nobody", Check.BEYOND, Edge::fresh, x -> x.set(0, t[0], t[1]));
            for (int person : Edge.outside(0, 2)) {
                Edge.refused("what " + t[0] + " of " + person, Check.BEYOND, Edge::three, x -> x.set(person, t[0], t[1]));
            }
            for (int person : Edge.outside(0, 7)) {
                Edge.refused("what " + t[0] + " of " + person, Check.BEYOND, Edge::onLog, x -> x.set(person, t[0], t[1]));
            }
        }
        for (int person : Edge.outside(0, 7)) {
            Edge.refused("a way of " + person, Check.BEYOND, Edge::full, x -> x.set(person, 6, -1));
        }
    }

    /** "STATE: he is on THE LOG." */
    private static void setStateOnTheLog() {
        int[][] fine = {{1, 1}, {2, 0}, {3, 99}, {4, 999}, {6, -1}, {6, 1}};
        for (int[] f : fine) {
            Edge.refused("what " + f[0] + " of FIRST", Check.STATE, Edge::onLog, x -> x.set(7, f[0], f[1]));
            Edge.refused("what " + f[0] + " of SECOND", Check.STATE, Edge::onLog, x -> x.set(2, f[0], f[1]));
            for (int person : new int[] {0, 1, 3, 4, 5, 6}) {
                int was = Edge.onLog().of(person, f[0]);
                Edge.allowed("what " + f[0] + " of another, " + person, was, Edge::onLog, x -> x.set(person, f[0], f[1]));
            }
        }
        LogRollers just = Edge.three();
        just.mount(2, 0);
        Check.due("as he has got on", Check.STATE, just.set(2, 1, 9));
        Check.due("the other too", Check.STATE, just.set(0, 1, 9));
    }

    private static void setBeyondAheadOfState() {
        for (int[] t : TRAITS) {
            for (int v : Edge.outside(t[1], t[2])) {
                Edge.refused("what " + t[0] + " of FIRST becomes " + v, Check.BEYOND, Edge::onLog, x -> x.set(7, t[0], v));
                Edge.refused("what " + t[0] + " of SECOND becomes " + v, Check.BEYOND, Edge::onLog, x -> x.set(2, t[0], v));
            }
        }
        Edge.refused("no way below", Check.BEYOND, Edge::onLog, x -> x.set(7, 6, -2));
        Edge.refused("no way above", Check.BEYOND, Edge::onLog, x -> x.set(2, 6, 2));
    }

    private static void setOnceOffTheLog() {
        LogRollers x = Edge.three();
        x.mount(0, 1);
        x.off();
        Check.due("FIRST, off the log", 80, x.set(0, 1, 9));
        Check.due("SECOND, off the log", 100, x.set(1, 1, 9));
        LogRollers y = Edge.bare(0);
        y.mount(0, 1);
        Check.due("both fall", 3, y.bout(1));
        Check.due("FIRST, in the water", 1, y.set(0, 1, 9));
        Check.due("SECOND, in the water", 1, y.set(1, 1, 9));
        Check.due("no finding", 0, x.status(-1) + y.status(-1));
    }

    // ---- Promise 5: as

    private static void asPeople() {
        for (int kind = 0; kind < 6; kind++) {
            int k = kind;
            Edge.refused("nobody as " + k, Check.BEYOND, Edge::fresh, x -> x.as(0, k));
            for (int person : Edge.outside(0, 2)) {
                Edge.refused(person + " as " + k, Check.BEYOND, Edge::three, x -> x.as(person, k));
            }
            for (int person : Edge.outside(0, 7)) {
                Edge.refused(person + " as " + k, Check.BEYOND, Edge::onLog, x -> x.as(person, k));
            }
        }
    }

    private static void asKinds() {
        for (int kind : Edge.outside(0, 5)) {
            for (int person = 0; person < 3; person++) {
                int p = person;
                Edge.refused(p + " as " + kind, Check.BEYOND, Edge::three, x -> x.as(p, kind));
            }
        }
    }

    /** "KIND: it isn't of that kind, nor of one under it." Persons 0 to 5 of the crowd are of the kinds 0 to 5. */
    private static void asKindsAbove() {
        String[] above = {"0", "01", "02", "023", "04", "045"};
        for (int person = 0; person < 6; person++) {
            int p = person;
            int falls = Edge.crowd().of(p, 5);
            for (int kind = 0; kind < 6; kind++) {
                int k = kind;
                if (above[p].indexOf('0' + k) >= 0) {
                    Edge.allowedAndIdle(p + " as " + k, falls, Edge::crowd, x -> x.as(p, k));
                } else {
                    Edge.refused(p + " as " + k, Check.KIND, Edge::crowd, x -> x.as(p, k));
                }
            }
        }
    }

    private static void asBeyondAheadOfKind() {
        Edge.refused("a ROLLER as no kind", Check.BEYOND, Edge::crowd, x -> x.as(0, 6));
        Edge.refused("no one as a kind", Check.BEYOND, Edge::crowd, x -> x.as(8, 5));
    }

    private static void asTellsFalls() {
        LogRollers x = Edge.bare(0);
        for (int falls = 0; falls < 4; falls++) {
            Check.due("a RUNNER as one", falls, x.as(0, 1));
            Check.due("a RUNNER as a ROLLER", falls, x.as(0, 0));
            Check.due("a ROLLER as one", falls, x.as(1, 0));
            x.mount(0, 1);
            x.bout(1);
        }
    }

    // ---- Promise 6: log

    private static void logRanges() {
        for (int[] p : PARTS) {
            for (int v : new int[] {p[1], p[2]}) {
                Edge.allowed("part " + p[0] + " becomes " + v, p[3], Edge::three, x -> x.log(p[0], v));
                LogRollers x = Edge.three();
                x.log(p[0], v);
                for (int[] other : PARTS) {
                    Check.due("part " + other[0] + " then", other[0] == p[0] ? v : other[3], x.log(other[0], other[1]));
                }
            }
            for (Supplier<LogRollers> setting : everywhere()) {
                for (int v : Edge.outside(p[1], p[2])) {
                    Edge.refused("part " + p[0] + " becomes " + v, Check.BEYOND, setting, x -> x.log(p[0], v));
                }
            }
        }
    }

    private static void logWhats() {
        for (Supplier<LogRollers> setting : everywhere()) {
            for (int what : Edge.outside(0, 4)) {
                Edge.refused("part " + what, Check.BEYOND, setting, x -> x.log(what, 1));
            }
        }
    }

    /** No finding but BEYOND: the log can be changed under them, and they stay on it. */
    private static void logWhileTheyAreOn() {
        LogRollers x = Edge.onLog();
        int[] was = {15, 5, 3, 400, 30};
        int ticks = x.now(1);
        for (int[] p : PARTS) {
            Check.due("part " + p[0] + " in a bout", was[p[0]], x.log(p[0], p[2]));
        }
        Check.due("they stay on it", 1, x.count(2));
        Check.due("TICKS stay", ticks, x.now(1));
    }
}

import java.util.List;
import java.util.function.Supplier;

/** The sentences of promises 14 to 21, and of section 3, that name an edge: each has a test of its own. */
public final class AheadEdgesTest {
    private interface PairCall {
        int ask(LogRollers x, int a, int b);
    }

    private interface TicksCall {
        int ask(LogRollers x, int n);
    }

    public static void main(String[] args) {
        pairs();
        ranges();
        whats();
        nothingChanges();
        aheadAtMostN();
        aheadOfEachOutcome();
        aheadByStrength();
        aheadByTheStrengthOfEach();
        aheadOnALogOfTheSameSort();
        aheadWithZAsItIs();
        aheadInTheLastTick();
        bestFewestTicks();
        bestOfSeveralTheLeast();
        bestWhereBothFall();
        bestNone();
        bestInTheLastTick();
        lightTheLeast();
        lightNone();
        lightInTheLastTick();
        lightWeights();
        lateTheGreatest();
        lateTheLeast();
        lateNone();
        lateInTheLastTick();
        lateWithGaps();
        swingHalves();
        swingTheGreatestOfEach();
        swingNoSign();
        swingGrowsIfItIsMore();
        swingWhereOneFalls();
        swingInTheLastTick();
        beatsAsASet();
        beatsNeedsAWin();
        beatsPeople();
        beatsInTheLastTick();
        fiveOfEachSort();
        fiveInTheLastTick();
        fiveSlips();
        fiveAtMost();
        championOfNobody();
        championOfSeveral();
        championInTheLastTick();
        Check.end();
    }

    private static List<Supplier<LogRollers>> crowds() {
        return List.of(Edge::crowd, Edge::onLog, Edge::full);
    }

    /**
     * On a bare log with a line of 64: b (0) is a WAYED one with a lag of 9 who runs from a tick on, TURN being 33 more
     * each time; his LEAN is 7, 21, 40, 64, 92 then, so that he falls with the 5th push. a (1) can do nothing, and
     * stays up by a lag of 0.
     */
    private static LogRollers fallerFrom(int tick) {
        LogRollers x = new LogRollers();
        x.roller(5, 1);
        x.roller(0, 1);
        x.set(0, 2, 9);
        x.set(0, 3, 99);
        x.set(0, 4, 999);
        x.set(1, 2, 0);
        x.set(1, 3, 99);
        x.set(1, 4, 0);
        Check.due("his way", 0, Check.tell(x, "tick>" + (tick - 1) + ":run"));
        x.set(0, 6, 0);
        Edge.bareTheLog(x, 64);
        return x;
    }

    // ---- "BEYOND (also one and the same)"

    private static void pairs() {
        pairsOf("ahead", (x, a, b) -> x.ahead(a, b, 9, 0));
        pairsOf("best", (x, a, b) -> x.best(a, b, 9));
        pairsOf("light", (x, a, b) -> x.light(a, b, 9));
        pairsOf("late", (x, a, b) -> x.late(a, b, 9));
        pairsOf("swing", (x, a, b) -> x.swing(a, b, 9, 0));
        pairsOf("five", (x, a, b) -> x.five(a, b, 9));
    }

    private static void pairsOf(String name, PairCall call) {
        Edge.refused(name + " of nobody", Check.BEYOND, Edge::fresh, x -> call.ask(x, 0, 1));
        for (int person : Edge.outside(0, 2)) {
            Edge.refused(name + " of a " + person, Check.BEYOND, Edge::three, x -> call.ask(x, person, 1));
            Edge.refused(name + " of b " + person, Check.BEYOND, Edge::three, x -> call.ask(x, 1, person));
        }
        for (int person : Edge.outside(0, 7)) {
            Edge.refused(name + " of a " + person, Check.BEYOND, Edge::onLog, x -> call.ask(x, person, 1));
            Edge.refused(name + " of b " + person, Check.BEYOND, Edge::onLog, x -> call.ask(x, 1, person));
        }
        for (int person = 0; person < 8; person++) {
            int p = person;
            Edge.refused(name + " of one and the same", Check.BEYOND, Edge::crowd, x -> call.ask(x, p, p));
        }
        LogRollers x = Edge.crowd();
        call.ask(x, 0, 7);
        call.ask(x, 7, 0);
        Check.due(name + " of the first and the last is not BEYOND", Edge.crowd().status(0), x.status(0));
    }

    /** "within n TICKS (1 to ..)" of each. */
    private static void ranges() {
        rangeOf("ahead", 1, 200, (x, n) -> x.ahead(0, 1, n, 0));
        rangeOf("best", 1, 200, (x, n) -> x.best(0, 1, n));
        rangeOf("light", 1, 100, (x, n) -> x.light(0, 1, n));
        rangeOf("late", 1, 200, (x, n) -> x.late(0, 1, n));
        rangeOf("swing", 2, 200, (x, n) -> x.swing(0, 1, n, 0));
        rangeOf("beats", 1, 100, (x, n) -> x.beats(0, n));
        rangeOf("five", 1, 100, (x, n) -> x.five(0, 1, n));
        rangeOf("champion", 1, 50, (x, n) -> x.champion(n));
    }

    private static void rangeOf(String name, int least, int most, TicksCall call) {
        for (Supplier<LogRollers> setting : crowds()) {
            for (int n : Edge.outside(least, most)) {
                Edge.refused(name + " by " + n, Check.BEYOND, setting, x -> call.ask(x, n));
            }
        }
        LogRollers x = Edge.crowd();
        call.ask(x, least);
        call.ask(x, most);
        Check.due(name + " by the least and the most is not BEYOND", Edge.crowd().status(0), x.status(0));
    }

    private static void whats() {
        for (Supplier<LogRollers> setting : crowds()) {
            for (int what : Edge.outside(0, 4)) {
                Edge.refused("ahead, what " + what, Check.BEYOND, setting, x -> x.ahead(0, 1, 9, what));
            }
            for (int what : Edge.outside(0, 2)) {
                Edge.refused("swing, what " + what, Check.BEYOND, setting, x -> x.swing(0, 1, 9, what));
            }
        }
    }

    // ---- Section 2: "A BOUT AHEAD .. nothing changes (z goes on from as it is, there alone)."

    private static void nothingChanges() {
        for (Supplier<LogRollers> setting : crowds()) {
            idle("ahead", setting, (x, n) -> x.ahead(2, 7, n, 0));
            idle("best", setting, (x, n) -> x.best(7, 2, n));
            idle("light", setting, (x, n) -> x.light(7, 2, n));
            idle("late", setting, (x, n) -> x.late(2, 7, n));
            idle("swing", setting, (x, n) -> x.swing(7, 2, n, 1));
            idle("beats", setting, (x, n) -> x.beats(7, n));
            idle("five", setting, (x, n) -> x.five(7, 2, n));
            idle("champion", setting, (x, n) -> x.champion(n));
        }
    }

    private static void idle(String name, Supplier<LogRollers> setting, TicksCall call) {
        Edge.same(name, Edge.shown(setting, x -> { }), Edge.shown(setting, x -> call.ask(x, 50)));
    }

    // ---- Promise 14: ahead

    private static void aheadAtMostN() {
        // n, then OUTCOME, TICKS, TURN, LEAN and LEFT of FIRST: SECOND falls in the 5th tick.
        int[][] rows = {{1, 0, 1, 33, 7, 989}, {2, 0, 2, 66, 21, 979}, {4, 0, 4, 132, 56, 959}, {5, 2, 5, 165, 70, 949}, {6, 2, 5, 165, 70, 949},
            {200, 2, 5, 165, 70, 949}};
        for (int[] r : rows) {
            for (int what = 0; what <= 4; what++) {
                int w = what;
                Edge.allowedAndIdle("ahead by " + r[0] + ", what " + w, r[1 + w], () -> Edge.bare(70), x -> x.ahead(0, 1, r[0], w));
            }
        }
    }

    private static void aheadOfEachOutcome() {
        Edge.allowedAndIdle("nobody falls", 0, () -> Edge.bare(80), x -> x.ahead(0, 1, 5, 0));
        Edge.allowedAndIdle("FIRST falls", 1, () -> Edge.bare(70), x -> x.ahead(1, 0, 5, 0));
        Edge.allowedAndIdle("LEAN of FIRST, who falls", 80, () -> Edge.bare(70), x -> x.ahead(1, 0, 5, 3));
        Edge.allowedAndIdle("LEFT of FIRST, who falls", 300, () -> Edge.bare(70), x -> x.ahead(1, 0, 5, 4));
        Edge.allowedAndIdle("SECOND falls", 2, () -> Edge.bare(79), x -> x.ahead(0, 1, 5, 0));
        Edge.allowedAndIdle("both fall", 3, () -> Edge.bare(69), x -> x.ahead(0, 1, 5, 0));
    }

    /** "as they are (STRENGTH, not LEFT), from getting on": what they have on the log does not count. */
    private static void aheadByStrength() {
        LogRollers x = Edge.bare(999);
        x.mount(1, 0);
        x.bout(30);
        x.log(3, 70);
        int[] due = {2, 5, 165, 70, 949};
        for (int what = 0; what <= 4; what++) {
            Check.due("while they are on the log, what " + what, due[what], x.ahead(0, 1, 5, what));
        }
        Check.due("they are on it still", 30, x.now(1));
        Check.due("with what is left", 699, x.stands(1, 3));
    }

    /** A RUNNER (0) and one who does nothing but see at once (1); STRENGTH of each. LEAN of 1 is 7, 14, 20, 25, 29. */
    private static LogRollers strengths(int line, int ofRunner, int ofOther) {
        LogRollers x = Edge.bare(line);
        x.set(0, 4, ofRunner);
        x.set(1, 2, 0);
        x.set(1, 3, 99);
        x.set(1, 4, ofOther);
        x.sheet(0, 16, 3);
        return x;
    }

    /** Each has his own STRENGTH, whoever is FIRST: the runner has all or nothing, the other has what the runner hasn't. */
    private static void aheadByTheStrengthOfEach() {
        Edge.allowedAndIdle("the runner is SECOND", 2, () -> strengths(70, 999, 0), x -> x.ahead(1, 0, 6, 0));
        Edge.allowedAndIdle("the runner is FIRST", 1, () -> strengths(70, 999, 0), x -> x.ahead(0, 1, 6, 0));
        Edge.allowedAndIdle("what is left of him", 939, () -> strengths(70, 999, 0), x -> x.ahead(0, 1, 6, 4));
        Edge.allowedAndIdle("best", 0, () -> strengths(70, 999, 0), x -> x.best(1, 0, 6));
        Edge.allowedAndIdle("light", 1, () -> strengths(70, 999, 0), x -> x.light(1, 0, 6));
        Edge.allowedAndIdle("late of the other", 1, () -> strengths(70, 999, 0), x -> x.late(1, 0, 6));
        Edge.allowedAndIdle("late of the runner", 1, () -> strengths(70, 999, 0), x -> x.late(0, 1, 6));
        Edge.allowedAndIdle("swing of the other", 25, () -> strengths(70, 999, 0), x -> x.swing(1, 0, 4, 1));
        Edge.allowedAndIdle("swing of the runner", 56, () -> strengths(70, 999, 0), x -> x.swing(0, 1, 4, 1));
        Edge.allowedAndIdle("beats", 1, () -> strengths(70, 999, 0), x -> x.beats(1, 6));
        Edge.allowedAndIdle("five", 1, () -> strengths(70, 999, 0), x -> x.five(1, 0, 6));
        Edge.allowedAndIdle("five the other way round", 2, () -> strengths(70, 999, 0), x -> x.five(0, 1, 6));
        Edge.allowedAndIdle("champion", 1, () -> strengths(70, 999, 0), x -> x.champion(6));
        for (int first = 0; first < 2; first++) {
            int f = first;
            LogRollers strong = strengths(70, 999, 0);
            strong.film(0, f, 1 - f);
            Check.due("film", 99, strong.write(0, 2, 99));
            Check.due("read", 0, strong.read(0, f, 1 - f));
            Edge.allowedAndIdle("ahead of a tired one", 0, () -> strengths(0, 0, 999), x -> x.ahead(f, 1 - f, 200, 2));
            Edge.allowedAndIdle("late with a tired one", 9, () -> strengths(0, 0, 999), x -> x.late(f, 1 - f, 200));
            Edge.allowedAndIdle("swing of a tired one", 0, () -> strengths(0, 0, 999), x -> x.swing(f, 1 - f, 200, 1));
            Edge.allowedAndIdle("five with a tired one", 0, () -> strengths(70, 0, 999), x -> x.five(f, 1 - f, 100));
            LogRollers tired = strengths(70, 0, 999);
            tired.film(0, f, 1 - f);
            Check.due("film of a tired one", 0, tired.write(0, 2, 0));
            Check.due("read of a tired one", 0, tired.read(0, f, 1 - f));
        }
        Edge.refused("light of a tired one", Check.NONE, () -> strengths(6, 0, 999), x -> x.light(1, 0, 100));
        Edge.allowedAndIdle("beats of a tired one", 0, () -> strengths(70, 0, 999), x -> x.beats(1, 100));
    }

    private static void aheadOnALogOfTheSameSort() {
        LogRollers x = Edge.bare(70);
        x.log(1, 50);
        x.log(2, 50);
        Check.due("all that turns is lost", 0, x.ahead(0, 1, 200, 2));
        x.log(1, 0);
        x.log(2, 0);
        x.log(0, 99);
        Check.due("99 by (9801 and 2)", 0, x.ahead(0, 1, 200, 2));
        x.log(0, 1);
        x.log(3, 6);
        Check.due("the line", 1, x.ahead(0, 1, 200, 1));
        x.log(3, 999);
        x.log(4, 100);
        Check.due("who slips leans as one whose FEET stay", 92, x.ahead(0, 1, 5, 3));
        x.log(4, 0);
        Check.due("who doesn't", 70, x.ahead(0, 1, 5, 3));
    }

    private static void aheadWithZAsItIs() {
        int differ = 0;
        for (int v = 0; v < 20; v++) {
            LogRollers x = Edge.bare(999);
            x.log(4, 50);
            x.seed(v);
            int lean = x.ahead(0, 1, 9, 3);
            Check.due("the same again", lean, x.ahead(0, 1, 9, 3));
            Check.due("z stays", v, x.count(5));
            x.mount(0, 1);
            x.bout(9);
            Check.due("as it is then on the log", x.stands(0, 2), lean);
            x.seed(v + 1);
            differ += x.ahead(0, 1, 9, 3) != lean ? 1 : 0;
        }
        Check.due("another z, another bout", 1, differ > 0 ? 1 : 0);
    }

    private static void aheadInTheLastTick() {
        Check.due("he falls in tick 200", 2, fallerFrom(195).ahead(1, 0, 200, 0));
        Check.due("of 200", 200, fallerFrom(195).ahead(1, 0, 200, 1));
        Check.due("he would in tick 201", 0, fallerFrom(196).ahead(1, 0, 200, 0));
        Check.due("200 ticks it is", 200, fallerFrom(196).ahead(1, 0, 200, 1));
        Check.due("199 are too few", 0, fallerFrom(195).ahead(1, 0, 199, 0));
    }

    // ---- Promise 15: best

    /** b runs with a lag of 9: alone he falls in the 3rd tick, in the 2nd if a runs too. a stays up by a lag of 0. */
    private static LogRollers running(int line) {
        LogRollers x = new LogRollers();
        x.roller(4, 1);
        x.roller(1, 1);
        for (int person = 0; person < 2; person++) {
            x.set(person, 2, 9 * person);
            x.set(person, 3, 99);
            x.set(person, 4, 999);
        }
        Edge.bareTheLog(x, line);
        return x;
    }

    /** "by which b FALLS soonest". */
    private static void bestFewestTicks() {
        Edge.allowedAndIdle("a RUNNER in 2 ticks, a ROLLER in 3", 1, () -> running(30), x -> x.best(0, 1, 200));
        Edge.allowedAndIdle("within 2", 1, () -> running(30), x -> x.best(0, 1, 2));
        Edge.refused("within 1", Check.NONE, () -> running(30), x -> x.best(0, 1, 1));
        Edge.allowedAndIdle("the last kind", 5, () -> stopping(69), x -> x.best(0, 1, 5));
        Edge.allowedAndIdle("the last kind on the line itself", 5, () -> stopping(63), x -> x.best(0, 1, 5));
        Edge.refused("the last kind above the line", Check.NONE, () -> stopping(62), x -> x.best(0, 1, 5));
        Edge.allowedAndIdle("a RUNNER, too, on a line of 70: he is less", 1, () -> stopping(70), x -> x.best(0, 1, 5));
        LogRollers x = running(30);
        Check.due("his own kind does not count", 1, x.best(0, 1, 9));
        Check.due("and stays", 4, x.of(0, 0));
    }

    /**
     * A way that stops behind 4 pushes: LEAN in the 5th tick is 63 (a) and 73 (b). A RUNNER goes on, which has both at
     * 70 or more then; other kinds have nobody at 60 within 5 ticks.
     */
    private static LogRollers stopping(int line) {
        LogRollers x = Edge.bare(line);
        Check.tell(x, "tick<4:run");
        x.set(0, 6, 0);
        return x;
    }

    /** "of several the least": a RUNNER and a WAYED one whose way is to run are alike. */
    private static void bestOfSeveralTheLeast() {
        LogRollers x = Edge.bare(70);
        Check.tell(x, "else:run");
        x.set(0, 6, 0);
        Check.due("RUNNER and WAYED", 1, x.best(0, 1, 5));
        Edge.allowedAndIdle("a ROLLER and all who can do nothing", 0, () -> fallerFrom(1), y -> y.best(1, 0, 200));
        Edge.allowedAndIdle("a ROLLER ahead of a CHECKER, both in 3 ticks", 0, () -> running(26), y -> y.best(0, 1, 3));
    }

    /** "and a doesn't (OUTCOME 2 ..)": on a line of 26 a RUNNER falls with b, in 2 ticks. */
    private static void bestWhereBothFall() {
        LogRollers x = running(26);
        x.roller(1, 1);
        x.set(2, 2, 0);
        x.set(2, 3, 99);
        x.set(2, 4, 999);
        Check.due("both fall", 3, x.ahead(2, 1, 2, 0));
        Check.due("that is not best", 0, x.best(2, 1, 200));
        Edge.refused("nor of any use within 2", Check.NONE, () -> running(26), y -> y.best(0, 1, 2));
    }

    private static void bestNone() {
        Edge.refused("4 ticks are too few", Check.NONE, () -> Edge.bare(70), x -> x.best(0, 1, 4));
        Edge.allowedAndIdle("5 are enough", 1, () -> Edge.bare(70), x -> x.best(0, 1, 5));
        Edge.refused("both fall", Check.NONE, () -> Edge.bare(0), x -> x.best(0, 1, 200));
        Edge.refused("nobody falls", Check.NONE, () -> Edge.bare(999), x -> x.best(0, 1, 3));
        Edge.refused("FIRST falls", Check.NONE, () -> fallerFrom(1), x -> x.best(0, 1, 4));
    }

    private static void bestInTheLastTick() {
        Edge.allowedAndIdle("in tick 200", 0, () -> fallerFrom(195), x -> x.best(1, 0, 200));
        Edge.refused("in tick 201", Check.NONE, () -> fallerFrom(196), x -> x.best(1, 0, 200));
        Edge.refused("within 199", Check.NONE, () -> fallerFrom(195), x -> x.best(1, 0, 199));
    }

    // ---- Promise 16: light

    private static void lightTheLeast() {
        Edge.allowedAndIdle("a weight of 1 does", 1, () -> Edge.bare(70), x -> x.light(0, 1, 5));
        LogRollers x = Edge.bare(70);
        x.set(0, 1, 299);
        Check.due("his own weight does not count", 1, x.light(0, 1, 5));
        Check.due("and stays", 299, x.of(0, 1));
    }

    private static void lightNone() {
        Edge.refused("4 ticks are too few", Check.NONE, () -> Edge.bare(70), x -> x.light(0, 1, 4));
        Edge.refused("both fall", Check.NONE, () -> Edge.bare(0), x -> x.light(0, 1, 100));
        Edge.refused("nobody falls", Check.NONE, () -> Edge.bare(999), x -> x.light(0, 1, 3));
        Edge.refused("FIRST falls", Check.NONE, () -> fallerFrom(1), x -> x.light(0, 1, 5));
    }

    private static void lightInTheLastTick() {
        Edge.allowedAndIdle("in tick 100", 1, () -> fallerFrom(95), x -> x.light(1, 0, 100));
        Edge.refused("in tick 101", Check.NONE, () -> fallerFrom(96), x -> x.light(1, 0, 100));
        Edge.refused("within 99", Check.NONE, () -> fallerFrom(95), x -> x.light(1, 0, 99));
    }

    /** "the least WEIGHT (1 to 299) of a": that it is the least, and that 299 is asked too. */
    private static void lightWeights() {
        int[] seen = new int[300];
        for (int thick = 1; thick < 60; thick++) {
            for (int line = 10; line < 30; line += 3) {
                LogRollers x = heavies(thick, line);
                int got = x.light(0, 1, 100);
                int due = (int) Check.NONE;
                for (int weight = 1; weight <= 299 && due < 0; weight++) {
                    LogRollers y = heavies(thick, line);
                    y.set(0, 1, weight);
                    due = y.ahead(0, 1, 100, 0) == 2 ? weight : due;
                }
                Check.due("light by thick " + thick + " and line " + line, due, got);
                seen[Math.max(0, got)]++;
            }
        }
        int many = 0;
        for (int weight = 1; weight <= 299; weight++) {
            many += seen[weight] > 0 ? 1 : 0;
        }
        Check.due("many weights are answered", 1, many > 20 ? 1 : 0);
    }

    private static LogRollers heavies(int thick, int line) {
        LogRollers x = new LogRollers();
        x.roller(1, 50);
        x.roller(0, 50);
        x.set(0, 3, 99);
        x.set(0, 4, 999);
        x.set(1, 3, 10);
        x.log(0, thick);
        x.log(3, line);
        return x;
    }

    // ---- Promise 17: late

    /** LEAN of the runner with a LAG of 3 or more is 85 or more in the 5th tick, with 2 it is 70, with 1 52. */
    private static void lateTheGreatest() {
        Edge.allowedAndIdle("a lag of 9, within 4", 9, () -> Edge.bare(70), x -> x.late(0, 1, 4));
        Edge.allowedAndIdle("a lag of 2, within 5", 2, () -> Edge.bare(70), x -> x.late(0, 1, 5));
        Edge.allowedAndIdle("a lag of 1, with a line of 69", 1, () -> Edge.bare(69), x -> x.late(0, 1, 5));
        LogRollers x = Edge.bare(70);
        x.set(0, 2, 9);
        Check.due("his own lag does not count", 2, x.late(0, 1, 5));
        Check.due("and stays", 9, x.of(0, 2));
        Edge.allowedAndIdle("who needn't see", 9, Edge::three, y -> y.late(2, 1, 19));
    }

    /** With a LAG of 0 LEAN is 7, 14, with more 7, 21: a line of 14 is for 0 alone. */
    private static void lateTheLeast() {
        Edge.allowedAndIdle("a line of 20", 0, () -> Edge.bare(20), x -> x.late(0, 1, 2));
        Edge.allowedAndIdle("a line of 14", 0, () -> Edge.bare(14), x -> x.late(0, 1, 2));
        Edge.refused("a line of 13", Check.NONE, () -> Edge.bare(13), x -> x.late(0, 1, 2));
        Edge.allowedAndIdle("a line of 21", 9, () -> Edge.bare(21), x -> x.late(0, 1, 2));
        Edge.allowedAndIdle("b in, a not: that is staying up", 1, () -> Edge.bare(33), x -> x.late(0, 1, 3));
        Edge.allowedAndIdle("a line of 32", 0, () -> Edge.bare(32), x -> x.late(0, 1, 3));
    }

    private static void lateNone() {
        Edge.refused("a line of 6", Check.NONE, () -> Edge.bare(6), x -> x.late(0, 1, 1));
        Edge.allowedAndIdle("a line of 7", 9, () -> Edge.bare(7), x -> x.late(0, 1, 1));
        Edge.refused("a line of 0", Check.NONE, () -> Edge.bare(0), x -> x.late(0, 1, 200));
    }

    private static void lateInTheLastTick() {
        Edge.allowedAndIdle("in tick 200", 1, () -> fallerFrom(195), x -> x.late(0, 1, 200));
        Edge.allowedAndIdle("in tick 201", 9, () -> fallerFrom(196), x -> x.late(0, 1, 200));
        Edge.allowedAndIdle("within 199", 9, () -> fallerFrom(195), x -> x.late(0, 1, 199));
    }

    /** The greatest one counts, though he falls with a smaller one. */
    private static void lateWithGaps() {
        int gaps = 0;
        for (int v = 0; v < 200; v++) {
            int due = (int) Check.NONE;
            int gap = 0;
            boolean hasFallen = false;
            for (int lag = 0; lag <= 9; lag++) {
                LogRollers x = checkers(v);
                x.set(0, 2, lag);
                int outcome = x.ahead(0, 1, 60, 0);
                boolean falls = outcome == 1 || outcome == 3;
                due = falls ? due : lag;
                gap = hasFallen && !falls ? 1 : gap;
                hasFallen |= falls;
            }
            gaps += gap;
            Check.due("late in " + v, due, checkers(v).late(0, 1, 60));
        }
        Check.due("there are gaps", 1, gaps > 0 ? 1 : 0);
    }

    private static LogRollers checkers(int v) {
        LogRollers x = new LogRollers();
        x.roller(2 + v % 2, 20 + v);
        x.roller(1, 30 + v % 40);
        x.set(0, 3, 10 + v % 30);
        x.set(1, 3, 10 + v % 50);
        x.log(0, 1 + v % 7);
        x.log(3, 10 + v % 31);
        x.log(4, v % 20);
        x.seed(v);
        return x;
    }

    // ---- Promise 18: swing

    /** A runner with a lag of 0: LEAN is 7, 14, 20, 25, 29 behind the first ticks. */
    private static LogRollers steady() {
        LogRollers x = Edge.bare(999);
        x.set(0, 2, 0);
        return x;
    }

    /** "in TICKS of the first half (n by 2, cut) .. and of the others". */
    private static void swingHalves() {
        int[][] rows = {{2, 7, 14}, {3, 7, 20}, {4, 14, 25}, {5, 14, 29}};
        for (int[] r : rows) {
            Edge.allowedAndIdle("first half of " + r[0], r[1], AheadEdgesTest::steady, x -> x.swing(0, 1, r[0], 0));
            Edge.allowedAndIdle("behind it of " + r[0], r[2], AheadEdgesTest::steady, x -> x.swing(0, 1, r[0], 1));
            Edge.allowedAndIdle("it grows in " + r[0], 1, AheadEdgesTest::steady, x -> x.swing(0, 1, r[0], 2));
        }
    }

    /** One push alone, by a weight of 4: LEAN is 14, 13, 12, 11, 10, 9; the greatest is not the last of its half. */
    private static void swingTheGreatestOfEach() {
        int[][] rows = {{2, 14, 13}, {4, 14, 12}, {5, 14, 12}, {6, 14, 11}};
        for (int[] r : rows) {
            LogRollers x = steady();
            x.set(0, 4, 10);
            x.set(0, 1, 4);
            Check.due("first half of " + r[0], r[1], x.swing(0, 1, r[0], 0));
            Check.due("behind it of " + r[0], r[2], x.swing(0, 1, r[0], 1));
            Check.due("it doesn't grow in " + r[0], 0, x.swing(0, 1, r[0], 2));
        }
    }

    private static void swingNoSign() {
        LogRollers x = steady();
        Check.tell(x, "else:back");
        x.roller(5, 1);
        x.set(2, 2, 0);
        x.set(2, 3, 99);
        x.set(2, 4, 999);
        x.set(2, 6, 0);
        Check.due("LEAN is below 0", -14, x.ahead(2, 1, 2, 3));
        Check.due("first half", 7, x.swing(2, 1, 2, 0));
        Check.due("behind it", 14, x.swing(2, 1, 2, 1));
        Check.due("it grows", 1, x.swing(2, 1, 2, 2));
    }

    /** One push alone: LEAN is 7 and 7, or with a weight of 4 (a TURN of 66) 14 and 13. */
    private static void swingGrowsIfItIsMore() {
        LogRollers as = steady();
        as.set(0, 4, 10);
        Check.due("at first", 7, as.swing(0, 1, 2, 0));
        Check.due("then the same", 7, as.swing(0, 1, 2, 1));
        Check.due("it doesn't grow", 0, as.swing(0, 1, 2, 2));
        LogRollers less = steady();
        less.set(0, 4, 10);
        less.set(0, 1, 4);
        Check.due("at first", 14, less.swing(0, 1, 2, 0));
        Check.due("then less", 13, less.swing(0, 1, 2, 1));
        Check.due("it doesn't grow", 0, less.swing(0, 1, 2, 2));
        Edge.allowedAndIdle("nobody does a thing", 0, () -> fallerFrom(201), x -> x.swing(1, 0, 200, 2));
    }

    /** A bout that ends has no ticks behind its end; the LEAN with which one falls counts. */
    private static void swingWhereOneFalls() {
        int[] atOnce = {7, 0, 0};
        int[] inTheFirstHalf = {70, 0, 0};
        int[] inTheSecond = {56, 70, 1};
        int[] who = {60, 80, 1};
        for (int what = 0; what <= 2; what++) {
            int w = what;
            Edge.allowedAndIdle("in the first tick", atOnce[w], () -> Edge.bare(6), x -> x.swing(0, 1, 2, w));
            Edge.allowedAndIdle("in the last tick of the first half", inTheFirstHalf[w], () -> Edge.bare(70), x -> x.swing(0, 1, 10, w));
            Edge.allowedAndIdle("in the first tick of the second", inTheSecond[w], () -> Edge.bare(70), x -> x.swing(0, 1, 9, w));
            Edge.allowedAndIdle("FIRST himself", who[w], () -> Edge.bare(70), x -> x.swing(1, 0, 9, w));
        }
    }

    private static void swingInTheLastTick() {
        int[][] rows = {{195, 0, 92, 1}, {196, 0, 64, 1}, {199, 0, 7, 1}, {200, 0, 0, 0}, {100, 0, 92, 1}, {99, 7, 92, 1}, {96, 64, 92, 1}, {95, 92, 0, 0}};
        for (int[] r : rows) {
            for (int what = 0; what <= 2; what++) {
                int w = what;
                Check.due("from tick " + r[0] + " on, what " + w, r[1 + w], fallerFrom(r[0]).swing(0, 1, 200, w));
            }
        }
    }

    // ---- Promise 19: beats

    /** Eight on a bare log, of whom some run: each of these beats each of the others in 5 ticks, with a line of 70. */
    private static LogRollers eight(int line, int runners) {
        LogRollers x = new LogRollers();
        for (int i = 0; i < 8; i++) {
            boolean isRunner = (runners >> i & 1) == 1;
            x.roller(isRunner ? 1 : 0, 1);
            x.set(i, 3, isRunner ? 99 : 20);
            x.set(i, 4, 999);
        }
        Edge.bareTheLog(x, line);
        return x;
    }

    private static void beatsAsASet() {
        for (int runner = 0; runner < 8; runner++) {
            int r = runner;
            for (int person = 0; person < 8; person++) {
                int p = person;
                int due = p == r ? 255 - (1 << r) : 0;
                Edge.allowedAndIdle(p + " beats, " + r + " runs", due, () -> eight(70, 1 << r), x -> x.beats(p, 5));
            }
        }
        Edge.allowedAndIdle("two runners fall together", 255 - 8 - 32, () -> eight(70, 8 + 32), x -> x.beats(3, 5));
    }

    private static void beatsNeedsAWin() {
        Edge.allowedAndIdle("both fall", 0, () -> eight(69, 128), x -> x.beats(7, 5));
        Edge.allowedAndIdle("nobody falls", 0, () -> eight(80, 128), x -> x.beats(7, 5));
        Edge.allowedAndIdle("4 ticks are too few", 0, () -> eight(70, 128), x -> x.beats(7, 4));
        Edge.allowedAndIdle("he falls himself", 0, () -> eight(70, 128), x -> x.beats(0, 100));
    }

    private static void beatsPeople() {
        Edge.refused("nobody is there", Check.BEYOND, Edge::fresh, x -> x.beats(0, 5));
        for (int person : Edge.outside(0, 2)) {
            Edge.refused("beats of " + person, Check.BEYOND, Edge::three, x -> x.beats(person, 5));
        }
        for (Supplier<LogRollers> setting : crowds()) {
            for (int person : Edge.outside(0, 7)) {
                Edge.refused("beats of " + person, Check.BEYOND, setting, x -> x.beats(person, 5));
            }
        }
        LogRollers one = new LogRollers();
        one.roller(1, 1);
        Check.due("one alone", 0, one.beats(0, 100));
        Check.due("no finding", 0, one.status(-1));
    }

    private static void beatsInTheLastTick() {
        Edge.allowedAndIdle("in tick 100", 1, () -> fallerFrom(95), x -> x.beats(1, 100));
        Edge.allowedAndIdle("in tick 101", 0, () -> fallerFrom(96), x -> x.beats(1, 100));
        Edge.allowedAndIdle("within 99", 0, () -> fallerFrom(95), x -> x.beats(1, 99));
    }

    // ---- Promise 20: five

    private static void fiveOfEachSort() {
        Edge.allowedAndIdle("the first has the other in", 1, () -> Edge.bare(70), x -> x.five(0, 1, 5));
        Edge.allowedAndIdle("the second has", 2, () -> Edge.bare(70), x -> x.five(1, 0, 5));
        Edge.allowedAndIdle("both at once", 0, () -> Edge.bare(69), x -> x.five(0, 1, 5));
        Edge.allowedAndIdle("neither", 0, () -> Edge.bare(80), x -> x.five(0, 1, 5));
        Edge.allowedAndIdle("within 4", 0, () -> Edge.bare(70), x -> x.five(0, 1, 4));
    }

    private static void fiveInTheLastTick() {
        Edge.allowedAndIdle("in tick 100", 1, () -> fallerFrom(95), x -> x.five(1, 0, 100));
        Edge.allowedAndIdle("in tick 100, the other way round", 2, () -> fallerFrom(95), x -> x.five(0, 1, 100));
        Edge.allowedAndIdle("in tick 101", 0, () -> fallerFrom(96), x -> x.five(1, 0, 100));
        Edge.allowedAndIdle("within 99", 0, () -> fallerFrom(95), x -> x.five(1, 0, 99));
    }

    /** "z going on from the one to the next, there": as many real bouts show it, of which three wins are enough. */
    private static void fiveSlips() {
        int[] seen = new int[3];
        int[] decidedBy = new int[6];
        for (int v = 0; v < 300; v++) {
            LogRollers x = slippery(v);
            int got = x.five(0, 1, 12);
            Check.due("z stays", v * 31, x.count(5));
            int[] in = new int[2];
            int bouts = 0;
            while (bouts < 5 && in[0] < 3 && in[1] < 3) {
                oneBout(x, 12, in);
                bouts++;
            }
            int due = in[0] == in[1] || Math.max(in[0], in[1]) < 3 ? 0 : in[0] == 3 ? 1 : 2;
            Check.due("five in " + v, due, got);
            seen[got]++;
            decidedBy[due == 0 ? 0 : bouts]++;
        }
        Check.due("each answer there is", 1, seen[0] > 0 && seen[1] > 0 && seen[2] > 0 ? 1 : 0);
        Check.due("by three, four and five bouts", 1, decidedBy[3] > 0 && decidedBy[4] > 0 && decidedBy[5] > 0 ? 1 : 0);
    }

    /** "Five BOUTS": two of them won are too few, though a sixth would make it three. */
    private static void fiveAtMost() {
        int[] bySixth = new int[2];
        for (int v = 0; v < 3000; v++) {
            LogRollers x = slippery(v);
            int n = 3 + v % 5;
            int got = x.five(0, 1, n);
            int[] in = new int[2];
            for (int bout = 0; bout < 5; bout++) {
                oneBout(x, n, in);
            }
            if (Math.max(in[0], in[1]) < 3) {
                Check.due("five in " + v + " by " + n, 0, got);
                oneBout(x, n, in);
                bySixth[0] += in[0] == 3 && in[1] < 3 ? 1 : 0;
                bySixth[1] += in[1] == 3 && in[0] < 3 ? 1 : 0;
            }
        }
        Check.due("a sixth would do it for the first", 1, bySixth[0] > 0 ? 1 : 0);
        Check.due("a sixth would do it for the second", 1, bySixth[1] > 0 ? 1 : 0);
    }

    private static void oneBout(LogRollers x, int n, int[] in) {
        x.mount(0, 1);
        int outcome = x.bout(n);
        in[0] += outcome >> 1;
        in[1] += outcome & 1;
        if (outcome == 0) {
            x.off();
        }
    }

    private static LogRollers slippery(int v) {
        LogRollers x = new LogRollers();
        x.roller(1, 50);
        x.roller(1, 60);
        x.set(0, 3, 20 + v % 61);
        x.set(1, 3, 20 + v % 70);
        x.set(0, 2, v % 4);
        x.set(1, 2, v % 5);
        x.log(0, 1 + v % 9);
        x.log(3, 10 + v % 21);
        x.log(4, 20 + v % 60);
        x.seed(v * 31);
        return x;
    }

    // ---- Promise 21: champion

    private static void championOfNobody() {
        Edge.refused("no people", Check.NONE, Edge::fresh, x -> x.champion(1));
        Edge.refused("no people, the most ticks", Check.NONE, Edge::fresh, x -> x.champion(50));
        for (int n : Edge.outside(1, 50)) {
            Edge.refused("BEYOND is asked ahead of NONE", Check.BEYOND, Edge::fresh, x -> x.champion(n));
        }
        LogRollers one = new LogRollers();
        one.roller(0, 1);
        Check.due("one alone", 0, one.champion(1));
        Check.due("no finding", 0, one.status(-1));
    }

    /** "of several the least". */
    private static void championOfSeveral() {
        for (int runner = 0; runner < 8; runner++) {
            int r = runner;
            Edge.allowedAndIdle("he runs alone", r, () -> eight(70, 1 << r), x -> x.champion(5));
        }
        Edge.allowedAndIdle("nobody beats anybody", 0, () -> eight(70, 128), x -> x.champion(4));
        Edge.allowedAndIdle("3 and 5 beat as many", 3, () -> eight(70, 8 + 32), x -> x.champion(5));
        Edge.allowedAndIdle("6 and 7 beat as many", 6, () -> eight(70, 64 + 128), x -> x.champion(5));
        Edge.allowedAndIdle("all of them fall", 0, () -> eight(0, 128), x -> x.champion(5));
    }

    private static void championInTheLastTick() {
        Edge.allowedAndIdle("in tick 50", 1, () -> fallerFrom(45), x -> x.champion(50));
        Edge.allowedAndIdle("in tick 51", 0, () -> fallerFrom(46), x -> x.champion(50));
        Edge.allowedAndIdle("within 49", 0, () -> fallerFrom(45), x -> x.champion(49));
    }
}

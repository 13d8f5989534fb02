import java.math.BigInteger;
import java.util.List;
import java.util.function.Supplier;

/** The sentences of promises 8 to 13, and of section 2 on TICKS, that name an edge: each has a test of its own. */
public final class BoutEdgesTest {
    /** TURN behind the first ticks of Edge.bare(), and LEAN of both. */
    private static final int[] TURNS = {33, 66, 99, 132, 165};
    private static final int[] LEANS_OF_RUNNER = {7, 21, 40, 56, 70};
    private static final int[] LEANS_OF_ROLLER = {7, 21, 40, 60, 80};

    public static void main(String[] args) {
        mountPeople();
        mountOneAndTheSame();
        mountState();
        mountBeyondAheadOfState();
        mountBeginsAnew();
        mountAgain();
        offState();
        offTellsTicks();
        offLeavesTurnAndTicks();
        boutRange();
        boutState();
        boutBeyondAheadOfState();
        boutAtMostN();
        boutFallInTheLastTick();
        boutGoesOn();
        standsRanges();
        standsState();
        standsBeyondAheadOfState();
        standsLeavesAllAsItIs();
        nowRange();
        nowOutcome();
        nowStaysTillOthersGetOn();
        seedTakesAnyNumber();
        seesBelowTickZero();
        pushesByWhatIsAhead();
        turnIsCut();
        turnOfBothTogether();
        turnIsSlowed();
        drawsGoRound();
        slipsBelowTheRest();
        slipsNeverAndAlways();
        firstDrawsFirst();
        feetByReachAtMost();
        leanIsCut();
        theLineItself();
        theLineBelowZero();
        theLeastAndTheGreatestLine();
        fallsOfWhomItIs();
        Check.end();
    }

    private static List<Supplier<LogRollers>> nobodyOn() {
        return List.of(Edge::fresh, Edge::three, Edge::crowd, Edge::full, BoutEdgesTest::afterAFall, BoutEdgesTest::afterOff);
    }

    private static LogRollers afterAFall() {
        LogRollers x = Edge.bare(0);
        x.mount(0, 1);
        x.bout(9);
        return x;
    }

    private static LogRollers afterOff() {
        LogRollers x = Edge.onLog();
        x.off();
        return x;
    }

    /** One tick of Edge.bare() after the other, with FIRST and SECOND so or the other way round. */
    private static LogRollers bareWith(int line, int first, int second) {
        LogRollers x = Edge.bare(line);
        x.mount(first, second);
        return x;
    }

    /** As Edge.bare(), but the log is pushed the other way. */
    private static LogRollers bareBack(int reach, int line) {
        LogRollers x = Edge.bare(line);
        x.roller(5, 1);
        x.set(2, 3, reach);
        x.set(2, 4, 999);
        Check.tell(x, "else:back");
        x.set(2, 6, 0);
        return x;
    }

    // ---- Promise 8: mount

    private static void mountPeople() {
        Edge.allowed("the first and the last", 1, Edge::crowd, x -> x.mount(0, 7));
        Edge.allowed("the last and the first", 1, Edge::crowd, x -> x.mount(7, 0));
        Edge.allowed("the last two of three", 1, Edge::three, x -> x.mount(2, 1));
        Edge.refused("nobody is there", Check.BEYOND, Edge::fresh, x -> x.mount(0, 1));
        for (int person : Edge.outside(0, 2)) {
            Edge.refused("first " + person, Check.BEYOND, Edge::three, x -> x.mount(person, 0));
            Edge.refused("second " + person, Check.BEYOND, Edge::three, x -> x.mount(0, person));
        }
        for (int person : Edge.outside(0, 7)) {
            Edge.refused("first " + person, Check.BEYOND, Edge::crowd, x -> x.mount(person, 0));
            Edge.refused("second " + person, Check.BEYOND, Edge::crowd, x -> x.mount(0, person));
        }
    }

    private static void mountOneAndTheSame() {
        for (int person = 0; person < 8; person++) {
            int p = person;
            Edge.refused("one and the same, " + p, Check.BEYOND, Edge::crowd, x -> x.mount(p, p));
        }
    }

    private static void mountState() {
        Edge.refused("the same two", Check.STATE, Edge::onLog, x -> x.mount(7, 2));
        Edge.refused("the other way round", Check.STATE, Edge::onLog, x -> x.mount(2, 7));
        Edge.refused("two others", Check.STATE, Edge::onLog, x -> x.mount(0, 1));
        Edge.refused("one of them and another", Check.STATE, Edge::onLog, x -> x.mount(3, 7));
        Edge.refused("as they have just got on", Check.STATE, () -> bareWith(60, 0, 1), x -> x.mount(1, 0));
    }

    private static void mountBeyondAheadOfState() {
        Edge.refused("one and the same", Check.BEYOND, Edge::onLog, x -> x.mount(7, 7));
        Edge.refused("no such first", Check.BEYOND, Edge::onLog, x -> x.mount(8, 2));
        Edge.refused("no such second", Check.BEYOND, Edge::onLog, x -> x.mount(7, -1));
    }

    /** "FEET, LEAN (both 0 as they get on), LEFT (his STRENGTH as he gets on). TURN of THE LOG is 0 as they get on, and TICKS too." */
    private static void mountBeginsAnew() {
        LogRollers x = Edge.bare(999);
        x.mount(0, 1);
        x.bout(5);
        Check.due("TURN", 165, x.now(0));
        x.off();
        int z = x.count(5);
        x.set(0, 4, 0);
        x.set(1, 4, 999);
        x.mount(1, 0);
        Check.due("TURN anew", 0, x.now(0));
        Check.due("TICKS anew", 0, x.now(1));
        int[][] due = {{1, 0, 0, 999, 0, 0}, {0, 0, 0, 0, 0, 0}};
        for (int who = 0; who < 2; who++) {
            for (int what = 0; what < 6; what++) {
                Check.due("stands(" + who + ", " + what + ")", due[who][what], x.stands(who, what));
            }
        }
        Check.due("z goes on", z, x.count(5));
    }

    private static void mountAgain() {
        LogRollers x = afterAFall();
        Check.due("behind a fall", 1, x.mount(1, 0));
        x.off();
        Check.due("behind getting off", 1, x.mount(1, 0));
        Check.due("behind getting off the log of others", 1, afterOff().mount(7, 2));
    }

    // ---- Promise 9: off

    private static void offState() {
        for (Supplier<LogRollers> setting : nobodyOn()) {
            Edge.refused("off with nobody on", Check.STATE, setting, LogRollers::off);
        }
    }

    private static void offTellsTicks() {
        Edge.allowed("as they have just got on", 0, () -> bareWith(60, 0, 1), LogRollers::off);
        Edge.allowed("behind 5", 5, Edge::onLog, LogRollers::off);
        LogRollers x = Edge.three();
        x.mount(0, 1);
        x.bout(400);
        x.bout(400);
        Check.due("behind 800", 800, x.off());
        Check.due("nobody is on it", 0, x.count(2));
    }

    private static void offLeavesTurnAndTicks() {
        LogRollers x = bareWith(999, 0, 1);
        x.bout(4);
        x.off();
        Check.due("TURN stays", 132, x.now(0));
        Check.due("TICKS stay", 4, x.now(1));
        Check.due("nobody fell", 0, x.count(3));
        Check.due("no bout was over", 0, x.now(2));
    }

    // ---- Promise 10: bout

    private static void boutRange() {
        Edge.allowed("1 tick", 0, () -> bareWith(999, 0, 1), x -> x.bout(1));
        Edge.allowed("400 ticks", 0, () -> restful(), x -> x.bout(400));
        for (int n : Edge.outside(1, 400)) {
            Edge.refused("bout of " + n, Check.BEYOND, Edge::onLog, x -> x.bout(n));
        }
        Edge.refused("bout of -400", Check.BEYOND, Edge::onLog, x -> x.bout(-400));
    }

    /** Two who do nothing. */
    private static LogRollers restful() {
        LogRollers x = new LogRollers();
        x.roller(0, 1);
        x.roller(0, 1);
        x.mount(0, 1);
        return x;
    }

    private static void boutState() {
        for (Supplier<LogRollers> setting : nobodyOn()) {
            Edge.refused("1 tick with nobody on", Check.STATE, setting, x -> x.bout(1));
            Edge.refused("400 ticks with nobody on", Check.STATE, setting, x -> x.bout(400));
        }
    }

    private static void boutBeyondAheadOfState() {
        for (Supplier<LogRollers> setting : nobodyOn()) {
            for (int n : Edge.outside(1, 400)) {
                Edge.refused("bout of " + n + " with nobody on", Check.BEYOND, setting, x -> x.bout(n));
            }
        }
    }

    private static void boutAtMostN() {
        for (int n : new int[] {1, 2, 399, 400}) {
            LogRollers x = restful();
            Check.due("nobody falls", 0, x.bout(n));
            Check.due("just " + n + " ticks", n, x.now(1));
            Check.due("they are on it still", 1, x.count(2));
        }
    }

    /** On a line of 70 SECOND falls in the 5th tick: n 4 is too few, 5 are enough, more are not used. */
    private static void boutFallInTheLastTick() {
        LogRollers four = bareWith(70, 0, 1);
        Check.due("4 ticks", 0, four.bout(4));
        Check.due("both are on it", 1, four.count(2));
        Check.due("one more", 2, four.bout(1));
        Check.due("5 in all", 5, four.now(1));
        for (int n : new int[] {5, 6, 400}) {
            LogRollers x = bareWith(70, 0, 1);
            Check.due(n + " ticks", 2, x.bout(n));
            Check.due("5 are used", 5, x.now(1));
            Check.due("TURN as it was then", 165, x.now(0));
            Check.due("nobody is on it", 0, x.count(2));
        }
    }

    private static void boutGoesOn() {
        LogRollers one = Edge.onLog();
        LogRollers two = Edge.onLog();
        one.bout(40);
        for (int i = 0; i < 40; i++) {
            two.bout(1);
        }
        Edge.same("40 ticks at once, or each by itself", Edge.world(one), Edge.world(two));
    }

    // ---- Promise 11: stands

    private static void standsRanges() {
        int[] due = {0, 0, 7, 989, 33, 99};
        for (int what = 0; what <= 5; what++) {
            int w = what;
            Edge.allowedAndIdle("stands(0, " + w + ")", due[w], BoutEdgesTest::behindOneTick, x -> x.stands(0, w));
        }
        Edge.allowedAndIdle("stands(1, 0)", 1, BoutEdgesTest::behindOneTick, x -> x.stands(1, 0));
        for (int what = 0; what <= 5; what++) {
            int w = what;
            for (int who : Edge.outside(0, 1)) {
                Edge.refused("who " + who, Check.BEYOND, Edge::onLog, x -> x.stands(who, w));
            }
        }
        for (int what : Edge.outside(0, 5)) {
            Edge.refused("what " + what + " of FIRST", Check.BEYOND, Edge::onLog, x -> x.stands(0, what));
            Edge.refused("what " + what + " of SECOND", Check.BEYOND, Edge::onLog, x -> x.stands(1, what));
        }
    }

    private static LogRollers behindOneTick() {
        LogRollers x = Edge.bare(60);
        x.set(0, 2, 0);
        x.mount(0, 1);
        x.bout(1);
        return x;
    }

    private static void standsState() {
        for (Supplier<LogRollers> setting : nobodyOn()) {
            for (int what = 0; what <= 5; what++) {
                int w = what;
                Edge.refused("FIRST of nobody, " + w, Check.STATE, setting, x -> x.stands(0, w));
                Edge.refused("SECOND of nobody, " + w, Check.STATE, setting, x -> x.stands(1, w));
            }
        }
    }

    private static void standsBeyondAheadOfState() {
        for (Supplier<LogRollers> setting : nobodyOn()) {
            Edge.refused("who -1 of nobody", Check.BEYOND, setting, x -> x.stands(-1, 0));
            Edge.refused("who 2 of nobody", Check.BEYOND, setting, x -> x.stands(2, 0));
            Edge.refused("what -1 of nobody", Check.BEYOND, setting, x -> x.stands(0, -1));
            Edge.refused("what 6 of nobody", Check.BEYOND, setting, x -> x.stands(1, 6));
        }
    }

    private static void standsLeavesAllAsItIs() {
        LogRollers x = Edge.onLog();
        for (int who = 0; who < 2; who++) {
            for (int what = 0; what < 6; what++) {
                int a = who;
                int b = what;
                Edge.allowedAndIdle("stands(" + a + ", " + b + ")", x.stands(a, b), Edge::onLog, y -> y.stands(a, b));
            }
        }
    }

    // ---- Promise 12: now

    private static void nowRange() {
        int[] due = {33, 1, 0};
        for (int what = 0; what <= 2; what++) {
            int w = what;
            Edge.allowedAndIdle("now(" + w + ")", due[w], BoutEdgesTest::behindOneTick, x -> x.now(w));
        }
        for (Supplier<LogRollers> setting : List.<Supplier<LogRollers>>of(Edge::fresh, Edge::crowd, Edge::onLog)) {
            for (int what : Edge.outside(0, 2)) {
                Edge.refused("now(" + what + ")", Check.BEYOND, setting, x -> x.now(what));
            }
        }
    }

    /** "OUTCOME of the latest one that was over (0 without)": of each OUTCOME, and while another goes on. */
    private static void nowOutcome() {
        LogRollers x = Edge.bare(70);
        Check.due("without", 0, x.now(2));
        x.mount(0, 1);
        Check.due("as it begins", 0, x.now(2));
        x.bout(4);
        Check.due("as it goes on", 0, x.now(2));
        x.bout(1);
        Check.due("SECOND fell", 2, x.now(2));
        x.mount(1, 0);
        x.bout(4);
        Check.due("the latest that was over, still", 2, x.now(2));
        x.bout(1);
        Check.due("FIRST fell", 1, x.now(2));
        x.log(3, 69);
        x.mount(0, 1);
        x.bout(5);
        Check.due("both fell", 3, x.now(2));
        x.mount(0, 1);
        x.bout(1);
        x.off();
        Check.due("one that nobody fell in was not over", 3, x.now(2));
    }

    /** "TURN and TICKS stay till others get on; so if they get off". */
    private static void nowStaysTillOthersGetOn() {
        LogRollers x = bareWith(70, 0, 1);
        x.bout(400);
        x.ahead(1, 0, 3, 0);
        x.log(3, 1);
        x.set(0, 3, 1);
        Check.due("TURN behind a fall", 165, x.now(0));
        Check.due("TICKS behind a fall", 5, x.now(1));
        x.mount(1, 0);
        Check.due("TURN as they get on", 0, x.now(0));
        Check.due("TICKS as they get on", 0, x.now(1));
    }

    // ---- Promise 13: seed

    private static void seedTakesAnyNumber() {
        int[] all = {0, -1, 1, Integer.MIN_VALUE, Integer.MAX_VALUE, -1000000000, -1000000001, -1000000004, -1000000007, -1000000008};
        for (int v : all) {
            Edge.allowed("seed(" + v + ")", -1, () -> seeded(-1), x -> x.seed(v));
            Edge.allowed("it was " + v, v, () -> seeded(v), x -> x.seed(5));
            Edge.allowedAndIdle("z is " + v, v, () -> seeded(v), x -> x.count(5));
        }
        LogRollers x = Edge.onLog();
        x.seed(77);
        Check.due("in a bout, too", 77, x.count(5));
        Check.due("they stay on it", 5, x.now(1));
    }

    private static LogRollers seeded(int v) {
        LogRollers x = Edge.three();
        x.seed(v);
        return x;
    }

    // ---- Section 1: "SEES: .. TURN as it was ahead of TICK t less LAG (0, if that is below 0)."

    private static void seesBelowTickZero() {
        for (int lag = 0; lag <= 9; lag++) {
            LogRollers x = Edge.bare(999);
            x.set(1, 2, lag);
            x.set(1, 3, 99);
            x.mount(0, 1);
            for (int tick = 0; tick < 13; tick++) {
                int due = tick - lag < 0 ? 0 : 33 * (tick - lag);
                Check.due("lag " + lag + " in tick " + tick, due, x.stands(1, 4));
                x.bout(1);
            }
        }
        LogRollers again = Edge.bare(999);
        again.set(1, 2, 9);
        again.mount(0, 1);
        again.bout(9);
        again.off();
        again.mount(0, 1);
        for (int tick = 0; tick < 9; tick++) {
            Check.due("nothing of an earlier bout in tick " + tick, 0, again.stands(1, 4));
            again.bout(1);
        }
        again.bout(1);
        Check.due("TURN ahead of tick 1", 33, again.stands(1, 4));
    }

    // ---- Section 2 (a): "PUSHES of both, by what is ahead of it"

    private static void pushesByWhatIsAhead() {
        LogRollers x = Edge.bare(999);
        x.roller(2, 1);
        x.set(2, 2, 0);
        x.set(2, 3, 99);
        x.mount(0, 2);
        x.bout(1);
        Check.due("SECOND has not seen FIRST's push", 33, x.now(0));
        x.bout(1);
        // (99 less 16) by 3 is 27.
        Check.due("he checks what was ahead of the tick", 60, x.now(0));
        LogRollers y = Edge.bare(999);
        y.roller(2, 1);
        y.set(2, 2, 0);
        y.set(2, 3, 99);
        y.mount(2, 0);
        y.bout(2);
        Check.due("nor does it matter who is FIRST", 60, y.now(0));
    }

    // ---- Section 2 (b) and (c)

    /** Quotients are cut towards 0: 20 by 3 either way. */
    private static void turnIsCut() {
        int[][] rows = {{1, 0}, {2, 0}, {3, 1}, {5, 1}, {20, 6}, {98, 32}, {99, 33}};
        for (int[] r : rows) {
            LogRollers back = bareBack(r[0], 999);
            back.mount(2, 1);
            back.bout(1);
            Check.due("back by " + r[0], -r[1], back.now(0));
            LogRollers run = Edge.bare(999);
            run.set(0, 3, r[0]);
            run.mount(1, 0);
            run.bout(1);
            Check.due("run by " + r[0], r[1], run.now(0));
        }
        LogRollers thick = new LogRollers();
        thick.roller(1, 299);
        thick.roller(0, 298);
        thick.set(0, 3, 99);
        thick.log(0, 99);
        thick.log(1, 0);
        thick.log(2, 0);
        thick.mount(0, 1);
        thick.bout(1);
        // 99 times 299 by (9801 and 597)
        Check.due("the thickest log", 2, thick.now(0));
    }

    /** Both pushes times their weights are one sum: by themselves they would be cut twice. */
    private static void turnOfBothTogether() {
        LogRollers x = new LogRollers();
        x.roller(1, 1);
        x.roller(1, 1);
        x.set(0, 3, 2);
        x.set(1, 3, 1);
        Edge.bareTheLog(x, 999);
        x.mount(0, 1);
        x.bout(1);
        Check.due("(2 and 1) by 3", 1, x.now(0));
        LogRollers y = bareBack(98, 999);
        y.mount(0, 2);
        y.bout(3);
        Check.due("(99 less 98) by 3", 0, y.now(0));
        LogRollers w = new LogRollers();
        w.roller(1, 2);
        w.roller(1, 299);
        w.set(0, 3, 99);
        w.set(1, 3, 1);
        Edge.bareTheLog(w, 999);
        w.mount(0, 1);
        w.bout(1);
        Check.due("(198 and 299) by (1 and 301)", 1, w.now(0));
    }

    /** "TURN is less by TURN times (WATER and BARK) by 100": the least and the greatest of both, and how it is cut. */
    private static void turnIsSlowed() {
        int[][] rows = {{0, 0, 33}, {50, 50, 0}, {50, 0, 17}, {0, 50, 17}, {1, 1, 33}, {1, 2, 33}, {2, 2, 32}, {3, 3, 32}, {3, 4, 31}, {50, 49, 1}};
        for (int[] r : rows) {
            LogRollers x = bareBack(99, 999);
            x.log(1, r[0]);
            x.log(2, r[1]);
            x.mount(0, 1);
            x.bout(1);
            Check.due("33 by water " + r[0] + " and bark " + r[1], r[2], x.now(0));
            x.off();
            x.mount(1, 2);
            x.bout(1);
            Check.due("-33 by water " + r[0] + " and bark " + r[1], -r[2], x.now(0));
        }
    }

    // ---- Section 2 (d)

    /** "z times 1103515245 and 12345 more, an int that goes round". */
    private static void drawsGoRound() {
        for (int v : new int[] {0, 1, -1, 2, 12345, Integer.MIN_VALUE, Integer.MAX_VALUE, -1000000001, 1103515245}) {
            LogRollers x = restful();
            x.seed(v);
            BigInteger z = BigInteger.valueOf(v);
            for (int tick = 0; tick < 5; tick++) {
                z = nextZ(nextZ(z));
                x.bout(1);
                Check.due("z behind tick " + tick + " from " + v, z.intValue(), x.count(5));
            }
        }
    }

    private static BigInteger nextZ(BigInteger z) {
        return z.multiply(BigInteger.valueOf(1103515245)).add(BigInteger.valueOf(12345)).mod(BigInteger.ONE.shiftLeft(32));
    }

    /** z >>> 8 is never below 0, though z is; its rest by 100. */
    private static int restOf(BigInteger z) {
        return z.shiftRight(8).intValueExact() % 100;
    }

    /** "he SLIPS if its rest by 100 is below SLIPS": at the rest itself he doesn't, at one more he does. */
    private static void slipsBelowTheRest() {
        int[] below = new int[2];
        for (int v = 0; v < 40; v++) {
            BigInteger first = nextZ(BigInteger.valueOf(v * 7919));
            BigInteger second = nextZ(first);
            below[first.testBit(31) ? 1 : 0]++;
            for (int more = 0; more < 2; more++) {
                Check.due("FEET of FIRST, z " + v, more == 1 ? 0 : 33, feetBehindADraw(v * 7919, restOf(first) + more, 0));
                Check.due("FEET of SECOND, z " + v, more == 1 ? 0 : 33, feetBehindADraw(v * 7919, restOf(second) + more, 1));
            }
        }
        Check.due("draws of both signs", 1, below[0] > 5 && below[1] > 5 ? 1 : 0);
    }

    /** Both see 33 and can reach it. */
    private static LogRollers seeing33() {
        LogRollers x = Edge.bare(999);
        x.set(0, 2, 0);
        x.set(1, 2, 0);
        x.set(1, 3, 99);
        x.mount(0, 1);
        x.bout(1);
        return x;
    }

    private static int feetBehindADraw(int z, int slips, int who) {
        LogRollers x = seeing33();
        x.seed(z);
        x.log(4, slips);
        x.bout(1);
        return x.stands(who, 1);
    }

    private static void slipsNeverAndAlways() {
        for (int v = -20; v < 20; v++) {
            for (int who = 0; who < 2; who++) {
                Check.due("with SLIPS 0, z " + v, 33, feetBehindADraw(v * 104729, 0, who));
                Check.due("with SLIPS 100, z " + v, 0, feetBehindADraw(v * 104729, 100, who));
            }
        }
        // A rest of 99, the greatest: SLIPS 99 are not above it.
        int z = 0;
        while (restOf(nextZ(BigInteger.valueOf(z))) != 99) {
            z++;
        }
        Check.due("a rest of 99 with SLIPS 99", 33, feetBehindADraw(z, 99, 0));
        Check.due("a rest of 99 with SLIPS 100", 0, feetBehindADraw(z, 100, 0));
        z = 0;
        while (restOf(nextZ(BigInteger.valueOf(z))) != 0) {
            z++;
        }
        Check.due("a rest of 0 with SLIPS 0", 33, feetBehindADraw(z, 0, 0));
        Check.due("a rest of 0 with SLIPS 1", 0, feetBehindADraw(z, 1, 0));
    }

    private static void firstDrawsFirst() {
        BigInteger first = nextZ(BigInteger.ZERO);
        Check.due("the first rest", 48, restOf(first));
        int rest = restOf(nextZ(first));
        int between = (48 + rest) / 2;
        boolean isFirstLess = 48 < between;
        Check.due("FIRST", isFirstLess ? 0 : 33, feetBehindADraw(0, between, 0));
        Check.due("SECOND", isFirstLess ? 33 : 0, feetBehindADraw(0, between, 1));
    }

    /** "FEET go towards s .. by as much as it is off, REACH at most": 33 off, and -33. */
    private static void feetByReachAtMost() {
        int[][] rows = {{1, 1}, {32, 32}, {33, 33}, {34, 33}, {99, 33}};
        for (int[] r : rows) {
            LogRollers x = bareBack(99, 999);
            x.set(1, 2, 0);
            x.set(1, 3, r[0]);
            x.mount(0, 1);
            x.bout(2);
            Check.due("FEET with a reach of " + r[0], r[1], x.stands(1, 1));
            x.off();
            x.mount(1, 2);
            x.bout(2);
            Check.due("FEET the other way with a reach of " + r[0], -r[1], x.stands(0, 1));
        }
        // With a reach of 20 to 33 in two ticks, and back as TURN is 0: by 20, then by the 13 that are left.
        LogRollers y = Edge.bare(999);
        y.set(1, 2, 0);
        y.set(0, 4, 10);
        y.mount(1, 0);
        int[] up = {0, 20, 33, 33};
        for (int tick = 0; tick < 4; tick++) {
            y.bout(1);
            Check.due("FEET go up in tick " + tick, up[tick], y.stands(0, 1));
        }
        y.log(1, 50);
        y.log(2, 50);
        int[] down = {33, 13, 0, 0};
        for (int tick = 0; tick < 4; tick++) {
            y.bout(1);
            Check.due("TURN is 0", 0, y.now(0));
            Check.due("FEET go down in tick " + (4 + tick), down[tick], y.stands(0, 1));
        }
    }

    // ---- Section 2 (e): "more by a quarter of (TURN less FEET) (cut), then less by its eighth (cut)"

    private static void leanIsCut() {
        // A TURN of 1, 2 .. behind the first tick; FEET are 0.
        int[][] rows = {{3, 0}, {4, 1}, {7, 1}, {8, 2}, {28, 7}, {31, 7}, {32, 7}, {33, 7}};
        for (int[] r : rows) {
            for (int sign : new int[] {1, -1}) {
                LogRollers x = bareBack(3 * r[0], 999);
                x.set(0, 3, 3 * r[0]);
                x.mount(sign > 0 ? 0 : 2, 1);
                x.bout(1);
                Check.due("TURN", sign * r[0], x.now(0));
                Check.due("LEAN by a TURN of " + sign * r[0], sign * r[1], x.stands(0, 2));
                Check.due("LEAN of SECOND by a TURN of " + sign * r[0], sign * r[1], x.stands(1, 2));
            }
        }
    }

    // ---- Section 2 (f): "who has a LEAN (no sign) above LINE FALLS"

    private static void theLineItself() {
        for (int tick = 0; tick < 5; tick++) {
            for (int runner = 0; runner < 2; runner++) {
                int[] leans = {LEANS_OF_RUNNER[tick], LEANS_OF_ROLLER[tick]};
                for (int line : new int[] {leans[0] - 1, leans[0], leans[1] - 1, leans[1]}) {
                    LogRollers x = Edge.bare(999);
                    x.mount(runner, 1 - runner);
                    for (int i = 0; i < tick; i++) {
                        x.bout(1);
                    }
                    x.log(3, line);
                    int first = leans[runner] > line ? 1 : 0;
                    int second = leans[1 - runner] > line ? 2 : 0;
                    Check.due("line " + line + " in tick " + tick, first + second, x.bout(1));
                    Check.due("TURN then", TURNS[tick], x.now(0));
                    Check.due("somebody is on it", first + second == 0 ? 1 : 0, x.count(2));
                }
            }
        }
    }

    private static void theLineBelowZero() {
        for (int[] r : new int[][] {{7, 0}, {6, 3}}) {
            LogRollers x = bareBack(99, r[0]);
            x.mount(2, 1);
            Check.due("a LEAN of -7 on a line of " + r[0], r[1], x.bout(1));
            Check.due("TURN", -33, x.now(0));
        }
    }

    private static void theLeastAndTheGreatestLine() {
        LogRollers x = restful();
        x.log(3, 0);
        Check.due("a LEAN of 0 is not above 0", 0, x.bout(400));
        LogRollers y = bareWith(0, 0, 1);
        Check.due("a LEAN of 7 is", 3, y.bout(1));
        LogRollers one = Edge.bare(0);
        one.set(0, 3, 12);
        one.mount(0, 1);
        Check.due("a LEAN of 1 is", 3, one.bout(1));
        Check.due("by a TURN of 4", 4, one.now(0));
        LogRollers w = Edge.bare(999);
        w.set(1, 3, 1);
        w.set(0, 2, 0);
        w.mount(0, 1);
        int lean = 0;
        int ticks = 0;
        while (w.bout(1) == 0 && ticks < 200) {
            lean = w.stands(1, 2);
            ticks++;
        }
        Check.due("he stood with no more than 999", 1, lean > 900 && lean <= 999 ? 1 : 0);
        Check.due("and fell", 2, w.now(2));
    }

    /** "his FALLS are 1 more. If one FALLS, or both, THE BOUT is over, and nobody is on THE LOG". */
    private static void fallsOfWhomItIs() {
        int[][] rows = {{70, 0, 1, 0, 1}, {70, 1, 0, 0, 1}, {69, 0, 1, 1, 1}, {80, 0, 1, 0, 0}};
        for (int[] r : rows) {
            LogRollers x = bareWith(r[0], r[1], r[2]);
            x.roller(1, 9);
            x.bout(5);
            Check.due("FALLS of the runner", r[3], x.of(0, 5));
            Check.due("FALLS of the other", r[4], x.of(1, 5));
            Check.due("FALLS of a third", 0, x.of(2, 5));
            Check.due("FALLS of all", r[3] + r[4], x.count(3));
            Check.due("somebody is on it", r[3] + r[4] == 0 ? 1 : 0, x.count(2));
        }
    }
}

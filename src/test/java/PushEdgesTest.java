/** The sentences of section 1 on PUSH, COST and DEEDS that name an edge, by push() (promise 7) and by bouts. */
public final class PushEdgesTest {
    public static void main(String[] args) {
        pushPeople();
        pushRanges();
        pushRollers();
        pushRunners();
        pushCheckers();
        pushReversers();
        pushWaiters();
        pushWayedWithout();
        pushDeeds();
        pushFirstRuleThatHolds();
        pushByEachName();
        pushByEachNameInABout();
        pushByEachOfSixWays();
        pushWhereNoRuleHolds();
        pushDoesNotAskTheCost();
        pushLeavesAllAsItIs();
        costs();
        leftIsJustTheCost();
        leftIsLessThanTheCost();
        nothingIsLeft();
        Check.end();
    }

    /** One of each kind, by its number; all with this REACH. */
    private static LogRollers kinds(int reach) {
        LogRollers x = new LogRollers();
        for (int kind = 0; kind < 6; kind++) {
            x.roller(kind, 10);
            x.set(kind, 3, reach);
        }
        return x;
    }

    private static void pushIs(int reach, int kind, int s, int e, int t, int due) {
        String what = "kind " + kind + " of reach " + reach + " with s " + s + ", e " + e + ", t " + t;
        Check.due(what, due, kinds(reach).push(kind, s, 0, e, t));
    }

    // ---- Promise 7: "s (-9999 to 9999), LEAN l (-999 to 999), LEFT e (0 to 999), TICK t (0 to 999). BEYOND."

    private static void pushPeople() {
        Edge.refused("push of nobody", Check.BEYOND, Edge::fresh, x -> x.push(0, 0, 0, 0, 0));
        Edge.allowedAndIdle("push of the last", 20, Edge::crowd, x -> x.push(7, 0, 0, 9, 0));
        for (int person : Edge.outside(0, 2)) {
            Edge.refused("push of " + person, Check.BEYOND, Edge::three, x -> x.push(person, 0, 0, 0, 0));
        }
        for (int person : Edge.outside(0, 7)) {
            Edge.refused("push of " + person, Check.BEYOND, Edge::onLog, x -> x.push(person, 0, 0, 0, 0));
        }
    }

    private static void pushRanges() {
        int[][] ranges = {{-9999, 9999}, {-999, 999}, {0, 999}, {0, 999}};
        for (int place = 0; place < 4; place++) {
            int at = place;
            for (int v : ranges[at]) {
                int[] a = situation(at, v);
                boolean isTired = at == 2 && v == 0;
                Edge.allowedAndIdle("argument " + at + " is " + v, isTired ? 0 : 20, Edge::three, x -> x.push(0, a[0], a[1], a[2], a[3]));
            }
            for (int v : Edge.outside(ranges[at][0], ranges[at][1])) {
                int[] a = situation(at, v);
                Edge.refused("argument " + at + " is " + v, Check.BEYOND, Edge::three, x -> x.push(0, a[0], a[1], a[2], a[3]));
                Edge.refused("of a WAYED, argument " + at + " is " + v, Check.BEYOND, Edge::onLog, x -> x.push(5, a[0], a[1], a[2], a[3]));
            }
        }
    }

    private static int[] situation(int place, int v) {
        int[] a = {0, 0, 9, 0};
        a[place] = v;
        return a;
    }

    // ---- "PUSH of one with s that he SEES, his LEAN l, LEFT e, TICK t"

    private static void pushRollers() {
        for (int[] a : new int[][] {{9999, 999, 999}, {-9999, 0, 0}, {0, 999, 20}}) {
            pushIs(99, 0, a[0], a[1], a[2], 0);
        }
    }

    /** "RUNNER: REACH, if e is 2 or more, else as ROLLER." */
    private static void pushRunners() {
        for (int reach : new int[] {1, 99}) {
            pushIs(reach, 1, 50, 0, 5, 0);
            pushIs(reach, 1, 50, 1, 5, 0);
            pushIs(reach, 1, 50, 2, 5, reach);
            pushIs(reach, 1, -50, 3, 5, reach);
            pushIs(reach, 1, 0, 999, 999, reach);
        }
    }

    /** "CHECKER: half of s (cut) with the other sign, REACH at most either way." */
    private static void pushCheckers() {
        int[][] rows = {{0, 0}, {1, 0}, {2, -1}, {3, -1}, {4, -2}, {38, -19}, {39, -19}, {40, -20}, {41, -20}, {42, -20}, {43, -20}, {9999, -20}};
        for (int[] r : rows) {
            pushIs(20, 2, r[0], 0, 0, r[1]);
            pushIs(20, 2, -r[0], 0, 0, -r[1]);
        }
        pushIs(1, 2, 2, 9, 9, -1);
        pushIs(1, 2, 4, 9, 9, -1);
        pushIs(1, 2, -4, 9, 9, 1);
        pushIs(99, 2, 197, 9, 9, -98);
        pushIs(99, 2, 198, 9, 9, -99);
        pushIs(99, 2, 200, 9, 9, -99);
        pushIs(99, 2, -200, 9, 9, 99);
    }

    /** "REVERSER: as CHECKER, if s is 5 or more, or -5 or less; else REACH below 0 (-REACH)." */
    private static void pushReversers() {
        for (int s = -4; s <= 4; s++) {
            pushIs(20, 3, s, 0, 0, -20);
        }
        int[][] rows = {{5, -2}, {6, -3}, {39, -19}, {40, -20}, {42, -20}, {9999, -20}};
        for (int[] r : rows) {
            pushIs(20, 3, r[0], 0, 0, r[1]);
            pushIs(20, 3, -r[0], 0, 0, -r[1]);
        }
        pushIs(1, 3, 5, 0, 0, -1);
        pushIs(1, 3, -5, 0, 0, 1);
        pushIs(99, 3, 4, 0, 0, -99);
    }

    /** "WAITER: as ROLLER till TICK 19 (that one, too), then a third of REACH (cut), if e is 1 or more." */
    private static void pushWaiters() {
        pushIs(30, 4, 9, 1, 0, 0);
        pushIs(30, 4, 9, 999, 18, 0);
        pushIs(30, 4, 9, 999, 19, 0);
        pushIs(30, 4, 9, 1, 20, 10);
        pushIs(30, 4, 9, 999, 21, 10);
        pushIs(30, 4, -9, 1, 999, 10);
        pushIs(30, 4, 9, 0, 20, 0);
        pushIs(30, 4, 9, 0, 999, 0);
        int[][] thirds = {{1, 0}, {2, 0}, {3, 1}, {5, 1}, {6, 2}, {98, 32}, {99, 33}};
        for (int[] t : thirds) {
            pushIs(t[0], 4, 0, 1, 20, t[1]);
        }
    }

    /** "WAYED: what his WAY tells, if he has one; else as WAITER." */
    private static void pushWayedWithout() {
        pushIs(30, 5, 9, 1, 19, 0);
        pushIs(30, 5, 9, 1, 20, 10);
        pushIs(30, 5, 9, 0, 20, 0);
        LogRollers x = kinds(30);
        Check.tell(x, "else:wait");
        Check.due("a way that isn't his", 10, x.push(5, 9, 0, 1, 20));
        x.set(5, 6, 0);
        Check.due("his own", 0, x.push(5, 9, 0, 1, 20));
        x.set(5, 6, -1);
        Check.due("his no more", 10, x.push(5, 9, 0, 1, 20));
        for (int kind = 0; kind < 5; kind++) {
            LogRollers y = kinds(30);
            Check.tell(y, "else:run");
            int without = y.push(kind, 60, 60, 1, 30);
            y.set(kind, 6, 0);
            Check.due("kind " + kind + " has no use for a way", without, y.push(kind, 60, 60, 1, 30));
        }
    }

    private static LogRollers wayed(int reach, String text) {
        LogRollers x = kinds(reach);
        Check.due("way of " + text, 0, Check.tell(x, text));
        x.set(5, 6, 0);
        return x;
    }

    /** "hop: a half of l (cut) with the other sign, REACH at most either way", and the other DEEDS. */
    private static void pushDeeds() {
        LogRollers hop = wayed(20, "else:hop");
        int[][] rows = {{0, 0}, {1, 0}, {2, -1}, {3, -1}, {39, -19}, {40, -20}, {41, -20}, {42, -20}, {999, -20}};
        for (int[] r : rows) {
            Check.due("hop with l " + r[0], r[1], hop.push(5, 77, r[0], 0, 0));
            Check.due("hop with l -" + r[0], -r[1], hop.push(5, -77, -r[0], 0, 0));
        }
        LogRollers check = wayed(20, "else:check");
        for (int[] r : rows) {
            Check.due("check with s " + r[0], r[1], check.push(5, r[0], 77, 0, 0));
            Check.due("check with s -" + r[0], -r[1], check.push(5, -r[0], -77, 0, 0));
        }
        Check.due("check below 5 too", -2, check.push(5, 4, 0, 0, 0));
        for (int reach : new int[] {1, 99}) {
            Check.due("run with nothing left", reach, wayed(reach, "else:run").push(5, 50, 50, 0, 0));
            Check.due("back", -reach, wayed(reach, "else:back").push(5, 50, 50, 0, 0));
            Check.due("wait, behind tick 19 too", 0, wayed(reach, "else:wait").push(5, 50, 50, 9, 20));
            Check.due("hop by " + reach, -reach, wayed(reach, "else:hop").push(5, 0, 999, 0, 0));
        }
    }

    private static void pushFirstRuleThatHolds() {
        LogRollers x = wayed(20, "tick<5:run;tick<9:back;tick>7:check;else:wait");
        int[][] rows = {{0, 20}, {4, 20}, {5, -20}, {8, -20}, {9, -4}, {999, -4}};
        for (int[] r : rows) {
            Check.due("in tick " + r[0], r[1], x.push(5, 8, 0, 9, r[0]));
        }
    }

    /** "turn: what he SEES; lean: his LEAN; left: his LEFT; tick: the TICK". */
    private static void pushByEachName() {
        String[] names = {"turn", "lean", "left", "tick"};
        for (int name = 0; name < 4; name++) {
            LogRollers x = wayed(20, names[name] + ">50:run;" + names[name] + "<40:back");
            int[][] rows = {{39, 99, -20}, {40, 99, 0}, {45, 0, 0}, {45, 99, 0}, {50, 0, 0}, {51, 0, 20}};
            for (int[] r : rows) {
                int[] a = {r[1], r[1], r[1], r[1]};
                a[name] = r[0];
                Check.due(names[name] + " " + r[0] + ", the others " + r[1], r[2], x.push(5, a[0], a[1], a[2], a[3]));
            }
        }
    }

    /** On a bare log with a runner, behind 3 ticks: he SEES 66, his FEET are at 33, LEAN is 33, LEFT 500, the TICK is 3. */
    private static void pushByEachNameInABout() {
        Object[][] rows = {{"turn", 66}, {"lean", 33}, {"left", 500}, {"tick", 3}};
        for (Object[] r : rows) {
            int number = (Integer) r[1];
            for (int off = -1; off <= 1; off++) {
                // Nothing is done ahead of the fourth tick: the rule in front sees to it.
                LogRollers x = Edge.bare(999);
                x.roller(5, 1);
                x.set(2, 2, 1);
                x.set(2, 3, 33);
                x.set(2, 4, 500);
                Check.tell(x, "tick<3:wait;" + r[0] + ">" + (number + off) + ":run");
                x.set(2, 6, 0);
                x.mount(0, 2);
                x.bout(3);
                Check.due("what he SEES", 66, x.stands(1, 4));
                Check.due("FEET", 33, x.stands(1, 1));
                Check.due("LEAN", 33, x.stands(1, 2));
                Check.due(r[0] + " above " + (number + off), off < 0 ? 33 : 0, x.stands(1, 5));
            }
        }
        LogRollers hop = Edge.bare(999);
        hop.roller(5, 1);
        hop.set(2, 2, 1);
        Check.tell(hop, "tick<3:wait;else:hop");
        hop.set(2, 6, 0);
        hop.mount(2, 0);
        hop.bout(3);
        Check.due("FEET by a reach of 20", 20, hop.stands(0, 1));
        Check.due("LEAN", 35, hop.stands(0, 2));
        Check.due("hop by half of LEAN", -17, hop.stands(0, 5));
    }

    /** "WAYS 0, 1, .. (at most 6)": the first, and the last of six, by push() and in a bout. */
    private static void pushByEachOfSixWays() {
        LogRollers x = kinds(20);
        Edge.bareTheLog(x, 999);
        for (int way = 0; way < 6; way++) {
            Check.due("way " + way, way, Check.tell(x, "turn>" + (10 + way) + ":check;else:back"));
        }
        for (int way = 0; way < 6; way++) {
            x.set(5, 6, way);
            Check.due("at the number of " + way, -20, x.push(5, 10 + way, 0, 9, 30));
            Check.due("above the number of " + way, -((11 + way) / 2), x.push(5, 11 + way, 0, 9, 30));
            x.mount(5, 0);
            Check.due("on the log with way " + way, -20, x.stands(0, 5));
            x.off();
            x.mount(0, 5);
            x.bout(1);
            Check.due("in a bout with way " + way, -200 / 21, x.now(0));
            x.off();
            Check.due("ahead with way " + way, -200 / 21, x.ahead(5, 0, 1, 2));
        }
    }

    private static void pushWhereNoRuleHolds() {
        LogRollers x = wayed(30, "turn>9:run;turn<-9:back");
        Check.due("above 9", 30, x.push(5, 10, 0, 9, 30));
        Check.due("at 9", 0, x.push(5, 9, 0, 9, 30));
        Check.due("at -9", 0, x.push(5, -9, 0, 9, 30));
        Check.due("below -9", -30, x.push(5, -10, 0, 9, 30));
    }

    /** PUSH itself does not ask LEFT but where its words do: COST is a bout's. */
    private static void pushDoesNotAskTheCost() {
        pushIs(99, 1, 0, 2, 0, 99);
        pushIs(99, 2, 400, 0, 0, -99);
        pushIs(99, 3, 0, 0, 0, -99);
        pushIs(99, 4, 0, 1, 20, 33);
    }

    private static void pushLeavesAllAsItIs() {
        Edge.allowedAndIdle("push of FIRST", 20, Edge::onLog, x -> x.push(7, 9999, 999, 999, 999));
        Edge.allowedAndIdle("push of a WAYED", -2, Edge::crowd, x -> x.push(5, 5, 0, 0, 0));
    }

    // ---- "COST of a PUSH: its tenth (no sign; cut) and 1, if it isn't 0; else 0."

    /** Two WAYED ones of weight 1 on a bare log, each with this way and REACH. */
    private static LogRollers both(String text, int reach, int strength) {
        LogRollers x = new LogRollers();
        for (int person = 0; person < 2; person++) {
            x.roller(5, 1);
            x.set(person, 3, reach);
            x.set(person, 4, strength);
        }
        Check.due("way of " + text, 0, Check.tell(x, text));
        x.set(0, 6, 0);
        x.set(1, 6, 0);
        Edge.bareTheLog(x, 999);
        x.mount(0, 1);
        return x;
    }

    private static void costs() {
        int[][] rows = {{1, 1}, {2, 1}, {9, 1}, {10, 2}, {11, 2}, {19, 2}, {20, 3}, {89, 9}, {90, 10}, {98, 10}, {99, 10}};
        for (int[] r : rows) {
            for (String text : new String[] {"else:run", "else:back"}) {
                LogRollers x = both(text, r[0], 500);
                x.bout(1);
                for (int who = 0; who < 2; who++) {
                    Check.due("LEFT behind a push of " + r[0] + " by " + text, 500 - r[1], x.stands(who, 3));
                }
            }
        }
        LogRollers none = both("else:wait", 99, 500);
        none.bout(1);
        Check.due("a push of 0 costs nothing", 500, none.stands(0, 3));
        Check.due("SECOND's too", 500, none.stands(1, 3));
    }

    /** A push for which LEFT is just enough is made; (2 pushes of r) by 3 is what TURN gets. */
    private static void leftIsJustTheCost() {
        int[][] rows = {{9, 1}, {10, 2}, {99, 10}};
        for (int[] r : rows) {
            for (int sign : new int[] {1, -1}) {
                LogRollers x = both(sign > 0 ? "else:run" : "else:back", r[0], r[1]);
                for (int who = 0; who < 2; who++) {
                    Check.due("PUSH of " + who, sign * r[0], x.stands(who, 5));
                }
                x.bout(1);
                Check.due("TURN", sign * (2 * r[0] / 3), x.now(0));
                for (int who = 0; who < 2; who++) {
                    Check.due("nothing is left of " + who, 0, x.stands(who, 3));
                    Check.due("no PUSH any more of " + who, 0, x.stands(who, 5));
                }
                x.bout(1);
                Check.due("TURN stays then", sign * (2 * r[0] / 3), x.now(0));
                Check.due("LEFT is not below 0", 0, x.stands(0, 3));
            }
        }
    }

    /** "if it is less than COST, his PUSH is 0 and LEFT stays." */
    private static void leftIsLessThanTheCost() {
        int[][] rows = {{9, 1}, {10, 2}, {99, 10}};
        for (int[] r : rows) {
            for (String text : new String[] {"else:run", "else:back"}) {
                LogRollers x = both(text, r[0], r[1] - 1);
                x.bout(3);
                Check.due("TURN", 0, x.now(0));
                for (int who = 0; who < 2; who++) {
                    Check.due("LEFT of " + who, r[1] - 1, x.stands(who, 3));
                    Check.due("PUSH of " + who, 0, x.stands(who, 5));
                }
            }
        }
        LogRollers one = new LogRollers();
        one.roller(1, 1);
        one.roller(1, 1);
        one.set(0, 4, 2);
        Edge.bareTheLog(one, 999);
        one.mount(0, 1);
        Check.due("one who can't pay", 0, one.stands(0, 5));
        Check.due("the other can", 20, one.stands(1, 5));
        one.bout(1);
        Check.due("TURN by the other alone", 6, one.now(0));
    }

    private static void nothingIsLeft() {
        for (int kind = 0; kind < 6; kind++) {
            LogRollers x = new LogRollers();
            x.roller(kind, 1);
            x.roller(0, 1);
            x.set(0, 4, 0);
            x.mount(0, 1);
            x.bout(30);
            Check.due("kind " + kind + " without STRENGTH", 0, x.now(0));
            Check.due("LEFT of it", 0, x.stands(0, 3));
        }
    }
}

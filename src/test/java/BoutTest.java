/** Promises 8 to 13: mount, off, bout, stands, now, seed. */
public final class BoutTest {
    public static void main(String[] args) {
        gettingOnAndOff();
        findingsOfBouts();
        aRunnerAlone();
        whatIsSeenLate();
        strengthRunsOut();
        waysInABout();
        bothFall();
        slips();
        seeds();
        theLineCanMove();
        Check.end();
    }

    private static LogRollers two(int kindA, int weightA, int kindB, int weightB) {
        LogRollers x = new LogRollers();
        x.roller(kindA, weightA);
        x.roller(kindB, weightB);
        return x;
    }

    /** A bare log: it turns by 33 a tick if a runner of weight 1 and reach 99 is on it with another of weight 1. */
    private static LogRollers bareLog(int kindB) {
        LogRollers x = two(1, 1, kindB, 1);
        x.set(0, 3, 99);
        x.set(0, 4, 999);
        x.log(0, 1);
        x.log(1, 0);
        x.log(2, 0);
        return x;
    }

    private static void gettingOnAndOff() {
        LogRollers x = two(1, 80, 2, 100);
        Check.due("off with nobody on", Check.STATE, x.off());
        int[][] beyond = {{0, 0}, {1, 1}, {0, 2}, {2, 0}, {-1, 0}, {0, -1}, {Integer.MIN_VALUE, Integer.MAX_VALUE}};
        for (int[] b : beyond) {
            Check.due("mount beyond", Check.BEYOND, x.mount(b[0], b[1]));
        }
        Check.due("mount", 1, x.mount(1, 0));
        Check.due("somebody is on it", 1, x.count(2));
        Check.due("mount again", Check.STATE, x.mount(0, 1));
        Check.due("mount again, beyond", Check.BEYOND, x.mount(0, 0));
        Check.due("FIRST", 1, x.stands(0, 0));
        Check.due("SECOND", 0, x.stands(1, 0));
        x.bout(7);
        int turn = x.now(0);
        Check.due("off", 7, x.off());
        Check.due("nobody is on it", 0, x.count(2));
        Check.due("TURN stays", turn, x.now(0));
        Check.due("TICKS stay", 7, x.now(1));
        Check.due("nobody fell", 0, x.count(3));
        x.mount(1, 0);
        Check.due("TURN anew", 0, x.now(0));
        Check.due("TICKS anew", 0, x.now(1));
        Check.due("LEFT anew", 300, x.stands(1, 3));
    }

    private static void findingsOfBouts() {
        LogRollers x = two(1, 80, 2, 100);
        for (int n : new int[] {0, 401, -1, Integer.MIN_VALUE, Integer.MAX_VALUE}) {
            Check.due("bout of " + n, Check.BEYOND, x.bout(n));
        }
        Check.due("bout with nobody", Check.STATE, x.bout(1));
        Check.due("stands with nobody", Check.STATE, x.stands(0, 0));
        int[][] beyond = {{-1, 0}, {2, 0}, {0, -1}, {0, 6}};
        for (int[] b : beyond) {
            Check.due("stands beyond, asked first", Check.BEYOND, x.stands(b[0], b[1]));
        }
        Check.due("now 3", Check.BEYOND, x.now(3));
        Check.due("now -1", Check.BEYOND, x.now(-1));
        Check.due("BEYOND counted", 11, x.status(0));
        Check.due("STATE counted", 2, x.status(4));
    }

    private static void aRunnerAlone() {
        LogRollers x = two(1, 80, 0, 100);
        x.mount(0, 1);
        // 20 times 80 by (225 and 180) is 3; 8 of 100 of it are lost from TURN 13 on.
        int[] turns = {3, 6, 9, 12, 14, 16, 18, 20, 22, 23, 24, 25, 26, 27, 28, 29, 30, 31, 32, 33};
        for (int i = 0; i < turns.length; i++) {
            Check.due("bout(1)", 0, x.bout(1));
            Check.due("TURN behind tick " + i, turns[i], x.now(0));
            Check.due("FEET behind tick " + i, i < 2 ? 0 : i == 2 ? 0 : turns[i - 3], x.stands(0, 1));
        }
        Check.due("LEFT", 300 - 3 * turns.length, x.stands(0, 3));
        Check.due("LEFT of a ROLLER", 300, x.stands(1, 3));
    }

    private static void whatIsSeenLate() {
        for (int lag = 0; lag <= 9; lag++) {
            LogRollers x = bareLog(0);
            x.set(1, 2, lag);
            x.log(3, 999);
            x.mount(0, 1);
            for (int tick = 0; tick < 15; tick++) {
                int due = tick < lag ? 0 : 33 * (tick - lag);
                Check.due("lag " + lag + " sees in tick " + tick, due, x.stands(1, 4));
                x.bout(1);
            }
        }
    }

    private static void strengthRunsOut() {
        LogRollers x = two(1, 80, 2, 100);
        x.set(0, 4, 7);
        x.set(0, 3, 30);
        x.log(3, 999);
        x.mount(0, 1);
        Check.due("a push of 30 costs 4", 30, x.stands(0, 5));
        x.bout(1);
        Check.due("3 are left", 3, x.stands(0, 3));
        Check.due("which isn't enough", 0, x.stands(0, 5));
        Check.due("PUSH itself does not ask it", 30, x.push(0, 0, 0, 3, 1));
        int turn = x.now(0);
        x.bout(1);
        Check.due("LEFT stays", 3, x.stands(0, 3));
        Check.due("TURN gets no more", turn, x.now(0));

        LogRollers y = two(1, 80, 0, 100);
        y.set(0, 3, 9);
        y.set(0, 4, 3);
        y.mount(0, 1);
        y.bout(2);
        Check.due("a push of 9 costs 1, till 1 is left", 1, y.stands(0, 3));
        Check.due("a RUNNER with 1 left", 0, y.stands(0, 5));

        LogRollers w = two(1, 80, 0, 100);
        w.set(0, 3, 30);
        w.set(0, 4, 4);
        w.mount(0, 1);
        Check.due("just enough is enough", 30, w.stands(0, 5));
        w.bout(1);
        Check.due("nothing is left", 0, w.stands(0, 3));
        Check.due("30 times 80 by (225 and 180)", 5, w.now(0));
    }

    private static void waysInABout() {
        LogRollers x = two(5, 80, 5, 100);
        for (int i = 0; i < 6; i++) {
            Check.tell(x, i == 5 ? "left<300:back;tick<1:run" : i == 0 ? "turn>0:hop;else:run" : "else:wait");
        }
        x.set(0, 6, 0);
        x.set(1, 6, 5);
        x.set(1, 2, 0);
        x.mount(0, 1);
        Check.due("the first way", 20, x.stands(0, 5));
        Check.due("the last way", 20, x.stands(1, 5));
        x.bout(1);
        Check.due("3600 by (225 and 180)", 8, x.now(0));
        Check.due("LAG has it unseen", 20, x.stands(0, 5));
        Check.due("less is left now", -20, x.stands(1, 5));
        x.bout(3);
        Check.due("then he hops", -(x.stands(0, 2) / 2), x.stands(0, 5));
        Check.due("and sees", 1, x.stands(0, 4) > 0 ? 1 : 0);
    }

    private static void bothFall() {
        LogRollers x = bareLog(0);
        x.log(3, 0);
        x.mount(0, 1);
        Check.due("both fall", 3, x.bout(400));
        Check.due("in the first tick", 1, x.now(1));
        Check.due("TURN stays", 33, x.now(0));
        Check.due("OUTCOME", 3, x.now(2));
        Check.due("nobody is on it", 0, x.count(2));
        Check.due("FALLS of all", 2, x.count(3));
        Check.due("FALLS of the one", 1, x.of(0, 5));
        Check.due("FALLS of the other", 1, x.of(1, 5));
        x.log(3, 999);
        x.set(1, 3, 1);
        x.mount(1, 0);
        Check.due("FIRST falls", 1, x.bout(400));
        Check.due("his second fall", 2, x.of(1, 5));
        Check.due("not the other's", 1, x.of(0, 5));
        x.mount(0, 1);
        Check.due("OUTCOME stays while they are on", 1, x.now(2));
        Check.due("nobody falls yet", 0, x.bout(3));
        x.off();
        Check.due("getting off is no bout that was over", 1, x.now(2));
        x.mount(0, 1);
        Check.due("SECOND falls", 2, x.bout(400));
        Check.due("OUTCOME 2", 2, x.now(2));
    }

    private static void slips() {
        LogRollers x = bareLog(0);
        x.log(3, 999);
        x.log(4, 100);
        x.mount(0, 1);
        x.bout(10);
        Check.due("who always slips has FEET at 0", 0, x.stands(0, 1));
        Check.due("SECOND too", 0, x.stands(1, 1));

        // z 0: draws of 12345 >>> 8 = 48, then of (12345 * 1103515245 + 12345) >>> 8 = ...
        int z1 = 12345;
        int z2 = z1 * 1103515245 + 12345;
        Check.due("the first draw", 48, (z1 >>> 8) % 100);
        for (int slips = 0; slips <= 100; slips++) {
            LogRollers y = bareLog(0);
            y.set(0, 2, 0);
            y.set(1, 2, 0);
            y.log(3, 999);
            y.mount(0, 1);
            y.bout(1);
            y.seed(0);
            y.log(4, slips);
            y.bout(1);
            Check.due("FIRST with slips " + slips, 48 < slips ? 0 : 33, y.stands(0, 1));
            Check.due("SECOND with slips " + slips, (z2 >>> 8) % 100 < slips ? 0 : 20, y.stands(1, 1));
            Check.due("z behind them", z2, y.count(5));
        }
    }

    private static void seeds() {
        LogRollers x = two(0, 1, 0, 1);
        Check.due("z at first", 1, x.seed(-2000000000));
        Check.due("z below the findings", -2000000000, x.seed(Integer.MIN_VALUE));
        Check.due("the least", Integer.MIN_VALUE, x.seed(1));
        Check.due("that is no finding", 0, x.status(-1));
        x.mount(0, 1);
        x.bout(3);
        int z = 1;
        for (int i = 0; i < 6; i++) {
            z = z * 1103515245 + 12345;
        }
        Check.due("two draws each tick, though nobody slips", z, x.count(5));
    }

    private static void theLineCanMove() {
        LogRollers x = bareLog(0);
        x.log(3, 999);
        x.mount(0, 1);
        x.bout(4);
        int lean = Math.abs(x.stands(0, 2));
        x.log(3, 0);
        Check.due("a lean of more than 0", 1, lean > 0 ? 1 : 0);
        Check.due("the new line counts", 3, x.bout(400));
        Check.due("at once", 5, x.now(1));

        // The lean behind the first tick: 33 by 4 is 8, less its eighth: 7.
        LogRollers y = bareLog(0);
        y.log(3, 7);
        y.mount(0, 1);
        Check.due("on the line is not above it", 0, y.bout(1));
        Check.due("LEAN", 7, y.stands(1, 2));
        LogRollers w = bareLog(0);
        w.log(3, 6);
        w.mount(0, 1);
        Check.due("above it", 3, w.bout(1));
    }
}

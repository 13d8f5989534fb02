/** Promises 1 to 7: a new object, roller, of, set, as, log, push. */
public final class PeopleTest {
    private static final int MIN = Integer.MIN_VALUE;
    private static final int MAX = Integer.MAX_VALUE;

    public static void main(String[] args) {
        aNewObject();
        rollersAreMade();
        whatIsOfThem();
        thingsAreSet();
        kindsUnderKinds();
        theLog();
        pushesOfKinds();
        pushesOfWays();
        pushesBeyond();
        Check.end();
    }

    private static void aNewObject() {
        LogRollers x = new LogRollers();
        int[] counts = {0, 0, 0, 0, 0, 1};
        for (int what = 0; what < 6; what++) {
            Check.due("new: count " + what, counts[what], x.count(what));
        }
        for (int what = 0; what < 3; what++) {
            Check.due("new: now " + what, 0, x.now(what));
        }
        for (int which = -1; which < 7; which++) {
            Check.due("new: status " + which, 0, x.status(which));
        }
        Check.due("new: nothing is kept", 0, x.tear());
        for (int s = 0; s < 4; s++) {
            Check.due("new: sheet " + s, Check.MISSING, x.write(s, 0, 1));
        }
    }

    private static void rollersAreMade() {
        LogRollers x = new LogRollers();
        int[][] beyond = {{-1, 5}, {6, 5}, {0, 0}, {0, 300}, {MIN, 1}, {MAX, 1}, {0, MIN}, {0, MAX}};
        for (int[] b : beyond) {
            Check.due("roller beyond", Check.BEYOND, x.roller(b[0], b[1]));
        }
        Check.due("none was made", 0, x.count(0));
        for (int i = 0; i < 8; i++) {
            Check.due("roller " + i, i, x.roller(i % 6, i == 0 ? 1 : 299));
        }
        Check.due("a 9th", Check.FULL, x.roller(0, 1));
        Check.due("a 9th beyond: asked first", Check.BEYOND, x.roller(6, 1));
        Check.due("8 there are", 8, x.count(0));
        Check.due("FULL is counted", 1, x.status(1));
    }

    private static void whatIsOfThem() {
        LogRollers x = new LogRollers();
        Check.due("of nobody", Check.BEYOND, x.of(0, 0));
        x.roller(3, 77);
        int[] due = {3, 77, 2, 20, 300, 0, -1};
        for (int what = 0; what < 7; what++) {
            Check.due("of " + what, due[what], x.of(0, what));
        }
        int[][] beyond = {{0, -1}, {0, 7}, {1, 0}, {-1, 0}, {MIN, 0}, {MAX, 0}, {0, MIN}, {0, MAX}};
        for (int[] b : beyond) {
            Check.due("of beyond", Check.BEYOND, x.of(b[0], b[1]));
        }
    }

    private static void thingsAreSet() {
        LogRollers x = new LogRollers();
        x.roller(0, 50);
        x.roller(0, 60);
        x.roller(0, 70);
        int[][] ranges = {{1, 1, 299, 50}, {2, 0, 9, 2}, {3, 1, 99, 20}, {4, 0, 999, 300}};
        for (int[] r : ranges) {
            Check.due("below the least", Check.BEYOND, x.set(0, r[0], r[1] - 1));
            Check.due("above the most", Check.BEYOND, x.set(0, r[0], r[2] + 1));
            Check.due("the least", r[3], x.set(0, r[0], r[1]));
            Check.due("the most", r[1], x.set(0, r[0], r[2]));
            Check.due("it is so", r[2], x.of(0, r[0]));
        }
        Check.due("KIND is not set", Check.BEYOND, x.set(0, 0, 1));
        Check.due("FALLS are not set", Check.BEYOND, x.set(0, 5, 1));
        Check.due("no what", Check.BEYOND, x.set(0, 7, 1));
        Check.due("no one", Check.BEYOND, x.set(3, 1, 1));
        Check.due("no way yet", Check.BEYOND, x.set(0, 6, 0));
        Check.due("below no way", Check.BEYOND, x.set(0, 6, -2));
        Check.due("a way", 0, Check.tell(x, "else:run"));
        Check.due("it is his", -1, x.set(0, 6, 0));
        Check.due("his no more", 0, x.set(0, 6, -1));
        Check.due("no second way", Check.BEYOND, x.set(0, 6, 1));
        x.mount(0, 2);
        Check.due("FIRST is on the log", Check.STATE, x.set(0, 1, 5));
        Check.due("SECOND is on the log", Check.STATE, x.set(2, 1, 5));
        Check.due("BEYOND is asked first", Check.BEYOND, x.set(2, 1, 0));
        Check.due("another isn't on it", 60, x.set(1, 1, 5));
        x.off();
        Check.due("off it again", 70, x.set(2, 1, 5));
    }

    private static void kindsUnderKinds() {
        LogRollers x = new LogRollers();
        Check.due("as nobody", Check.BEYOND, x.as(0, 0));
        for (int kind = 0; kind < 6; kind++) {
            x.roller(kind, 10);
        }
        String[] asWhat = {"0", "01", "02", "023", "04", "045"};
        for (int person = 0; person < 6; person++) {
            for (int kind = 0; kind < 6; kind++) {
                boolean is = asWhat[person].indexOf('0' + kind) >= 0;
                Check.due(person + " as " + kind, is ? 0 : Check.KIND, x.as(person, kind));
            }
        }
        Check.due("kind beyond", Check.BEYOND, x.as(0, 6));
        Check.due("kind below", Check.BEYOND, x.as(0, -1));
        Check.due("no such one", Check.BEYOND, x.as(6, 0));
        x.log(3, 0);
        x.log(0, 1);
        x.mount(1, 0);
        x.bout(400);
        Check.due("FALLS are answered", x.of(1, 5), x.as(1, 1));
        Check.due("FALLS of another", x.of(0, 5), x.as(0, 0));
        Check.due("somebody fell", 1, x.count(3) > 0 ? 1 : 0);
    }

    private static void theLog() {
        LogRollers x = new LogRollers();
        int[][] parts = {{15, 1, 99}, {5, 0, 50}, {3, 0, 50}, {60, 0, 999}, {0, 0, 100}};
        for (int what = 0; what < 5; what++) {
            int[] p = parts[what];
            Check.due("part below", Check.BEYOND, x.log(what, p[1] - 1));
            Check.due("part above", Check.BEYOND, x.log(what, p[2] + 1));
            Check.due("part at first", p[0], x.log(what, p[1]));
            Check.due("part at least", p[1], x.log(what, p[2]));
            Check.due("part at most", p[2], x.log(what, p[2]));
        }
        for (int what : new int[] {-1, 5, MIN, MAX}) {
            Check.due("no part " + what, Check.BEYOND, x.log(what, 1));
        }
    }

    private static void pushesOfKinds() {
        LogRollers x = new LogRollers();
        for (int kind = 0; kind < 6; kind++) {
            x.roller(kind, 10);
        }
        // person, s, l, e, t, PUSH
        int[][] rows = {
            {0, 999, 999, 999, 999, 0},
            {1, 0, 0, 1, 0, 0}, {1, 0, 0, 2, 0, 20}, {1, 0, 0, 0, 0, 0},
            {2, 0, 0, 0, 0, 0}, {2, 1, 0, 0, 0, 0}, {2, -1, 0, 0, 0, 0}, {2, 2, 0, 0, 0, -1}, {2, 9, 0, 0, 0, -4},
            {2, -9, 0, 0, 0, 4}, {2, 41, 0, 0, 0, -20}, {2, 42, 0, 0, 0, -20}, {2, -9999, 0, 0, 0, 20},
            {3, 5, 0, 0, 0, -2}, {3, 4, 0, 0, 0, -20}, {3, -4, 0, 0, 0, -20}, {3, -5, 0, 0, 0, 2}, {3, 0, 0, 0, 0, -20},
            {3, 9999, 0, 0, 0, -20}, {3, -9999, 0, 0, 0, 20},
            {4, 0, 0, 1, 19, 0}, {4, 0, 0, 1, 20, 6}, {4, 0, 0, 0, 20, 0}, {4, 0, 0, 1, 999, 6}, {4, 0, 0, 999, 0, 0},
            {5, 0, 0, 1, 19, 0}, {5, 0, 0, 1, 20, 6}, {5, 0, 0, 0, 20, 0},
        };
        for (int[] r : rows) {
            Check.due("push of " + r[0] + " with s " + r[1] + ", e " + r[3] + ", t " + r[4], r[5], x.push(r[0], r[1], r[2], r[3], r[4]));
        }
        x.set(4, 3, 2);
        Check.due("a third of 2 is cut", 0, x.push(4, 0, 0, 9, 30));
        x.set(2, 3, 3);
        Check.due("a checker's reach", -3, x.push(2, 100, 0, 0, 0));
        Check.due("a checker needn't have it left", -3, x.push(2, 100, 0, 0, 0));
    }

    private static void pushesOfWays() {
        LogRollers x = new LogRollers();
        x.roller(5, 10);
        x.roller(1, 10);
        Check.tell(x, "tick<1:run; tick<2:check; tick<3:back; tick<4:wait; tick<5:hop");
        x.set(0, 6, 0);
        x.set(1, 6, 0);
        Check.due("run, with nothing left too", 20, x.push(0, 8, 8, 0, 0));
        Check.due("check", -4, x.push(0, 8, 0, 9, 1));
        Check.due("check at most", 20, x.push(0, -99, 0, 9, 1));
        Check.due("back", -20, x.push(0, 0, 0, 9, 2));
        Check.due("wait", 0, x.push(0, 50, 50, 9, 3));
        Check.due("hop", -4, x.push(0, 0, 9, 9, 4));
        Check.due("hop the other way", 4, x.push(0, 0, -9, 9, 4));
        Check.due("hop at most", -20, x.push(0, 0, 99, 9, 4));
        Check.due("hop at most, the other way", 20, x.push(0, 0, -99, 9, 4));
        Check.due("none holds, and he waits no more as a WAITER", 0, x.push(0, 50, 50, 9, 50));
        Check.due("another kind has no use for a way", 20, x.push(1, 0, 0, 9, 3));
        x.set(0, 6, -1);
        Check.due("without it as a WAITER", 6, x.push(0, 0, 0, 9, 50));
    }

    private static void pushesBeyond() {
        LogRollers x = new LogRollers();
        Check.due("nobody", Check.BEYOND, x.push(0, 0, 0, 0, 0));
        x.roller(1, 1);
        int[][] fine = {{0, 9999, 999, 999, 999}, {0, -9999, -999, 999, 0}};
        int[][] beyond = {
            {-1, 0, 0, 0, 0}, {1, 0, 0, 0, 0}, {0, 10000, 0, 0, 0}, {0, -10000, 0, 0, 0}, {0, 0, 1000, 0, 0}, {0, 0, -1000, 0, 0},
            {0, 0, 0, -1, 0}, {0, 0, 0, 1000, 0}, {0, 0, 0, 0, -1}, {0, 0, 0, 0, 1000}, {MIN, MIN, MIN, MIN, MIN}, {MAX, MAX, MAX, MAX, MAX},
        };
        for (int[] f : fine) {
            Check.due("push at the edge", 20, x.push(f[0], f[1], f[2], f[3], f[4]));
        }
        for (int[] b : beyond) {
            Check.due("push beyond", Check.BEYOND, x.push(b[0], b[1], b[2], b[3], b[4]));
        }
        Check.due("all are counted", beyond.length + 1, x.status(0));
    }
}

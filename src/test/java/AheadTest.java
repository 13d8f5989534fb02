import java.util.Random;

/** Promises 14 to 21: ahead, best, light, late, swing, beats, five, champion. */
public final class AheadTest {
    private static final int MIN = Integer.MIN_VALUE;
    private static final int MAX = Integer.MAX_VALUE;

    public static void main(String[] args) {
        wrongInputs();
        aheadIsAsTheBoutItself();
        nothingChanges();
        theLeastN();
        bestOfKinds();
        bestOfMany();
        lightest();
        lightestAtTheEdge();
        latest();
        swings();
        whoBeatsWhom();
        threeFallsOfFive();
        fiveToldOneByOne();
        Check.end();
    }

    /** People of many sorts on a log on which many fall. */
    private static LogRollers crowd(int variant) {
        LogRollers x = new LogRollers();
        int[] kinds = {1, 2, 3, 4, 5, 0, 1, 2};
        for (int i = 0; i < 8; i++) {
            x.roller(kinds[(i + variant) % 8], 1 + (i * 37 + variant * 11) % 299);
            x.set(i, 2, (i * 3 + variant) % 10);
            x.set(i, 3, 1 + (i * 29 + variant * 7) % 99);
            x.set(i, 4, (i * 131 + variant * 17 + 200) % 1000);
        }
        Check.tell(x, "turn>20:check;lean<-4:hop;else:run");
        x.set(variant % 8, 6, 0);
        x.set((4 + 8 - variant % 8) % 8, 6, 0);
        x.log(0, 1 + variant * 3 % 20);
        x.log(3, 5 + variant * 2 % 30);
        x.log(4, variant * 5 % 60);
        x.seed(variant * 7919);
        return x;
    }

    /** OUTCOME and TICKS by a real bout; everything is undone again. */
    private static int[] really(LogRollers x, int a, int b, int n) {
        x.image();
        x.mount(a, b);
        int outcome = x.bout(n);
        int[] answer = {outcome, x.now(1), x.now(0), x.count(5)};
        x.undo();
        return answer;
    }

    private static void wrongInputs() {
        LogRollers none = new LogRollers();
        Check.due("champion of nobody", Check.NONE, none.champion(1));
        Check.due("champion beyond is asked first", Check.BEYOND, none.champion(51));
        LogRollers x = crowd(1);
        int[][] pairs = {{0, 0}, {7, 7}, {0, 8}, {8, 0}, {-1, 0}, {0, -1}, {MIN, MAX}};
        for (int[] p : pairs) {
            Check.due("ahead of no pair", Check.BEYOND, x.ahead(p[0], p[1], 5, 0));
            Check.due("best of no pair", Check.BEYOND, x.best(p[0], p[1], 5));
            Check.due("light of no pair", Check.BEYOND, x.light(p[0], p[1], 5));
            Check.due("late of no pair", Check.BEYOND, x.late(p[0], p[1], 5));
            Check.due("swing of no pair", Check.BEYOND, x.swing(p[0], p[1], 5, 0));
            Check.due("five of no pair", Check.BEYOND, x.five(p[0], p[1], 5));
        }
        for (int n : new int[] {0, -1, 201, MIN, MAX}) {
            Check.due("ahead n " + n, Check.BEYOND, x.ahead(0, 1, n, 0));
            Check.due("best n " + n, Check.BEYOND, x.best(0, 1, n));
            Check.due("late n " + n, Check.BEYOND, x.late(0, 1, n));
            Check.due("swing n " + n, Check.BEYOND, x.swing(0, 1, n, 0));
        }
        for (int n : new int[] {0, -1, 101, MIN, MAX}) {
            Check.due("light n " + n, Check.BEYOND, x.light(0, 1, n));
            Check.due("beats n " + n, Check.BEYOND, x.beats(0, n));
            Check.due("five n " + n, Check.BEYOND, x.five(0, 1, n));
        }
        for (int n : new int[] {0, -1, 51, MIN, MAX}) {
            Check.due("champion n " + n, Check.BEYOND, x.champion(n));
        }
        Check.due("swing n 1", Check.BEYOND, x.swing(0, 1, 1, 0));
        Check.due("swing what", Check.BEYOND, x.swing(0, 1, 9, 3));
        Check.due("swing what below", Check.BEYOND, x.swing(0, 1, 9, -1));
        Check.due("ahead what", Check.BEYOND, x.ahead(0, 1, 9, 5));
        Check.due("ahead what below", Check.BEYOND, x.ahead(0, 1, 9, -1));
        Check.due("beats of nobody", Check.BEYOND, x.beats(8, 9));
        Check.due("beats of nobody below", Check.BEYOND, x.beats(-1, 9));
        Check.due("no finding at the edges", 0, isFinding(x.ahead(0, 1, 200, 4)) + isFinding(x.swing(0, 1, 200, 0))
                + isFinding(x.swing(0, 1, 2, 1)) + isFinding(x.beats(0, 100)) + isFinding(x.five(0, 1, 100)) + isFinding(x.champion(50)));
    }

    private static int isFinding(int answer) {
        return answer < -1000000000 ? 1 : 0;
    }

    private static void aheadIsAsTheBoutItself() {
        for (int variant = 0; variant < 40; variant++) {
            LogRollers x = crowd(variant);
            int a = variant % 8;
            int b = (variant * 3 + 1) % 8;
            if (a == b) {
                continue;
            }
            int[] due = really(x, a, b, 60);
            for (int what = 0; what < 3; what++) {
                Check.due("ahead " + what + " in " + variant, due[what], x.ahead(a, b, 60, what));
            }
            x.mount(a, b);
            x.bout(2);
            if (x.count(2) == 1) {
                x.seed(variant * 7919);
                Check.due("LEAN ahead", x.stands(0, 2), x.ahead(a, b, 2, 3));
                Check.due("LEFT ahead", x.stands(0, 3), x.ahead(a, b, 2, 4));
                Check.due("STRENGTH, not LEFT", due[1], x.ahead(a, b, 60, 1));
            }
        }
    }

    private static void nothingChanges() {
        LogRollers x = crowd(3);
        x.mount(0, 1);
        x.bout(1);
        int z = x.count(5);
        int turn = x.now(0);
        int falls = x.count(3);
        x.ahead(2, 3, 200, 0);
        x.best(0, 1, 200);
        x.light(0, 1, 100);
        x.late(1, 0, 200);
        x.swing(4, 5, 200, 2);
        x.beats(6, 100);
        x.five(0, 7, 100);
        x.champion(50);
        Check.due("z", z, x.count(5));
        Check.due("TURN", turn, x.now(0));
        Check.due("TICKS", 1, x.now(1));
        Check.due("FALLS", falls, x.count(3));
        Check.due("OUTCOME of the latest", 0, x.now(2));
        for (int i = 0; i < 8; i++) {
            LogRollers fresh = crowd(3);
            for (int what = 0; what < 7; what++) {
                Check.due("of " + i, fresh.of(i, what), x.of(i, what));
            }
        }
    }

    /** A search's answer by people that are really made so. */
    private static void bestOfKinds() {
        for (int variant = 0; variant < 40; variant++) {
            LogRollers x = crowd(variant);
            int due = (int) Check.NONE;
            int fewest = 1000;
            for (int kind = 0; kind < 6; kind++) {
                int[] got = kindInstead(variant, kind);
                if (got[0] == 2 && got[1] < fewest) {
                    fewest = got[1];
                    due = kind;
                }
            }
            Check.due("best in " + variant, due, x.best(0, 1, 150));
        }
    }

    private static int[] kindInstead(int variant, int kind) {
        LogRollers from = crowd(variant);
        LogRollers x = new LogRollers();
        x.roller(kind, from.of(0, 1));
        x.roller(from.of(1, 0), from.of(1, 1));
        Check.tell(x, "turn>20:check;lean<-4:hop;else:run");
        for (int i = 0; i < 2; i++) {
            for (int what : new int[] {2, 3, 4, 6}) {
                x.set(i, what, from.of(i, what));
            }
        }
        for (int what = 0; what < 5; what++) {
            int v = from.log(what, 1);
            x.log(what, v);
        }
        x.seed(from.count(5));
        return really(x, 0, 1, 150);
    }

    /** Everybody's best kind among several; each kind is the best one of some. */
    private static void bestOfMany() {
        int[] seen = new int[6];
        for (int variant = 0; variant < 400; variant++) {
            int due = (int) Check.NONE;
            int fewest = 1000;
            for (int kind = 0; kind < 6; kind++) {
                LogRollers x = randomTwo(variant, kind);
                if (x.ahead(0, 1, 100, 0) == 2 && x.ahead(0, 1, 100, 1) < fewest) {
                    fewest = x.ahead(0, 1, 100, 1);
                    due = kind;
                }
            }
            Check.due("best of many in " + variant, due, randomTwo(variant, variant % 6).best(0, 1, 100));
            if (due >= 0) {
                seen[due]++;
            }
        }
        for (int kind = 0; kind < 6; kind++) {
            Check.due("kind " + kind + " is best of some", 1, seen[kind] > 0 ? 1 : 0);
        }
    }

    private static LogRollers randomTwo(int variant, int kind) {
        Random r = new Random(variant);
        LogRollers x = new LogRollers();
        x.roller(kind, 1 + r.nextInt(299));
        x.roller(r.nextInt(5), 1 + r.nextInt(299));
        for (int i = 0; i < 2; i++) {
            x.set(i, 2, r.nextInt(10));
            x.set(i, 3, 1 + r.nextInt(99));
            x.set(i, 4, r.nextInt(1000));
        }
        x.log(0, 1 + r.nextInt(20));
        x.log(3, r.nextInt(60));
        Check.tell(x, "turn>9:back;else:run");
        x.set(0, 6, 0);
        return x;
    }

    /** One tick, in which nobody falls. */
    private static void theLeastN() {
        LogRollers x = new LogRollers();
        x.roller(1, 1);
        x.roller(0, 1);
        Check.due("best by 1", Check.NONE, x.best(0, 1, 1));
        Check.due("light by 1", Check.NONE, x.light(0, 1, 1));
        Check.due("NONE twice", 2, x.status(3));
        Check.due("late by 1", 9, x.late(0, 1, 1));
        Check.due("beats by 1", 0, x.beats(0, 1));
        Check.due("five by 1", 0, x.five(0, 1, 1));
        Check.due("champion by 1", 0, x.champion(1));
        Check.due("ahead by 1", 1, x.ahead(0, 1, 1, 1));
        Check.due("no other finding", 2, x.status(-1));
    }

    /** The greatest weight there is wins, and 298 does not. */
    private static void lightestAtTheEdge() {
        LogRollers x = new LogRollers();
        x.roller(1, 50);
        x.roller(0, 50);
        x.set(0, 3, 99);
        x.set(0, 4, 999);
        x.set(1, 3, 10);
        x.log(0, 46);
        x.log(3, 19);
        x.set(0, 1, 298);
        Check.due("with 298 both fall", 3, x.ahead(0, 1, 100, 0));
        x.set(0, 1, 299);
        Check.due("299 does", 2, x.ahead(0, 1, 100, 0));
        Check.due("so 299 it is", 299, x.light(0, 1, 100));
        Check.due("his own weight stays", 299, x.of(0, 1));
    }

    private static void lightest() {
        int some = 0;
        for (int variant = 0; variant < 40; variant++) {
            LogRollers x = crowd(variant);
            int due = (int) Check.NONE;
            for (int weight = 1; weight < 300 && due < 0; weight++) {
                // A new one each time: an object is good for 512 calls.
                LogRollers y = crowd(variant);
                y.set(0, 1, weight);
                due = really(y, 0, 1, 80)[0] == 2 ? weight : due;
            }
            some += due > 0 ? 1 : 0;
            Check.due("light in " + variant, due, x.light(0, 1, 80));
        }
        Check.due("some win", 1, some > 0 ? 1 : 0);
    }

    private static void latest() {
        int some = 0;
        for (int variant = 0; variant < 40; variant++) {
            LogRollers x = crowd(variant);
            int due = (int) Check.NONE;
            for (int lag = 0; lag < 10; lag++) {
                LogRollers y = crowd(variant);
                y.set(0, 2, lag);
                int outcome = really(y, 0, 1, 80)[0];
                due = outcome == 0 || outcome == 2 ? lag : due;
            }
            some += due >= 0 ? 1 : 0;
            Check.due("late in " + variant, due, x.late(0, 1, 80));
        }
        Check.due("some stay up", 1, some > 0 ? 1 : 0);
    }

    private static void swings() {
        for (int variant = 0; variant < 40; variant++) {
            LogRollers x = crowd(variant);
            int n = 2 + variant;
            int[] due = new int[2];
            for (int k = 1; k <= n; k++) {
                if (x.ahead(0, 1, k, 1) == k) {
                    int half = k <= n / 2 ? 0 : 1;
                    due[half] = Math.max(due[half], Math.abs(x.ahead(0, 1, k, 3)));
                }
            }
            Check.due("swing at first in " + variant, due[0], x.swing(0, 1, n, 0));
            Check.due("swing behind in " + variant, due[1], x.swing(0, 1, n, 1));
            Check.due("swing grows in " + variant, due[1] > due[0] ? 1 : 0, x.swing(0, 1, n, 2));
        }
    }

    private static void whoBeatsWhom() {
        int all = 0;
        for (int variant = 0; variant < 40; variant++) {
            LogRollers x = crowd(variant);
            int champion = 0;
            int most = -1;
            for (int a = 0; a < 8; a++) {
                int set = 0;
                for (int b = 0; b < 8; b++) {
                    set |= a != b && x.ahead(a, b, 40, 0) == 2 ? 1 << b : 0;
                }
                Check.due("beats of " + a + " in " + variant, set, x.beats(a, 40));
                if (Integer.bitCount(set) > most) {
                    most = Integer.bitCount(set);
                    champion = a;
                }
                all |= set;
            }
            Check.due("champion in " + variant, champion, x.champion(40));
        }
        Check.due("many are beaten", 1, Integer.bitCount(all) > 3 ? 1 : 0);
        LogRollers one = new LogRollers();
        one.roller(0, 1);
        Check.due("one alone beats nobody", 0, one.beats(0, 100));
        Check.due("and is champion", 0, one.champion(1));
    }

    private static void threeFallsOfFive() {
        int[] seen = new int[3];
        for (int variant = 0; variant < 60; variant++) {
            LogRollers x = crowd(variant);
            LogRollers y = crowd(variant);
            int b = 1 + variant % 7;
            int n = 10 + variant;
            int[] wins = new int[2];
            int due = 0;
            for (int i = 0; i < 5; i++) {
                int outcome = y.ahead(0, b, n, 0);
                y.seed(really(y, 0, b, n)[3]);
                wins[0] += outcome / 2;
                wins[1] += outcome % 2;
                if (wins[0] == 3 || wins[1] == 3) {
                    due = wins[0] == wins[1] ? 0 : wins[0] == 3 ? 1 : 2;
                    break;
                }
            }
            seen[due]++;
            Check.due("five in " + variant, due, x.five(0, b, n));
        }
        for (int i = 0; i < 3; i++) {
            Check.due("answers of " + i + " there are", 1, seen[i] > 0 ? 1 : 0);
        }
    }

    /** Runs whose five outcomes are told: a third win counts at once, a sixth bout never. */
    private static void fiveToldOneByOne() {
        int[][] two = {{12, 17, 22333, 1}, {15, 20, 31313, 2}, {20, 25, 32333, 1}, {145, 30, 33113, 2}};
        for (int[] t : two) {
            fiveOf(runners(t[0]), runners(t[0]), t);
        }
        int[][] late = {{565, 30, 1010, 0}, {6443, 28, 110, 0}, {11483, 28, 21001, 0}, {563, 28, 21211, 2}, {10583, 28, 12212, 1}};
        for (int[] t : late) {
            fiveOf(runnerAndChecker(t[0]), runnerAndChecker(t[0]), t);
        }
    }

    private static void fiveOf(LogRollers x, LogRollers y, int[] told) {
        int outcomes = 0;
        for (int i = 0; i < 5; i++) {
            int[] got = really(y, 0, 1, told[1]);
            outcomes = outcomes * 10 + got[0];
            y.seed(got[3]);
        }
        Check.due("the outcomes", told[2], outcomes);
        x.ahead(0, 1, 7, 0);
        Check.due("five of " + told[2], told[3], x.five(0, 1, told[1]));
        x.five(1, 0, 3);
        Check.due("five of " + told[2] + " again", told[3], x.five(0, 1, told[1]));
    }

    private static LogRollers runners(int v) {
        LogRollers x = new LogRollers();
        x.roller(1, 50);
        x.roller(1, 60);
        x.set(0, 3, 20 + v % 61);
        x.set(1, 3, 20 + v % 70);
        x.set(0, 2, v % 4);
        x.set(1, 2, v % 5);
        x.log(0, 1 + v % 9);
        x.log(3, 1 + v % 21);
        x.log(4, 20 + v % 60);
        x.seed(v);
        return x;
    }

    private static LogRollers runnerAndChecker(int v) {
        LogRollers x = new LogRollers();
        x.roller(2, 50);
        x.roller(1, 60);
        x.set(0, 3, 5 + v % 7);
        x.set(1, 3, 20 + v % 70);
        x.set(0, 2, 3);
        x.set(1, 2, v % 5);
        x.log(0, 1 + v % 9);
        x.log(3, 10 + v % 21);
        x.log(4, 20 + v % 60);
        x.seed(v);
        return x;
    }
}

import java.util.ArrayList;
import java.util.List;
import java.util.function.Consumer;
import java.util.function.Supplier;
import java.util.function.ToLongFunction;

/**
 * Calls at the edges of what is allowed. A refused call is held to what the document says of findings: it answers its
 * finding, status() tells one more of it, and every other call answers as if the refused one had never been made.
 */
final class Edge {
    private static final int MIN = Integer.MIN_VALUE;
    private static final int MAX = Integer.MAX_VALUE;

    private Edge() {
    }

    /** The first numbers that are not from least to most, and the furthest ones. */
    static int[] outside(int least, int most) {
        return new int[] {least - 1, most + 1, MIN, MAX};
    }

    // ---- settings: each call makes the same object anew

    static LogRollers fresh() {
        return new LogRollers();
    }

    /** Three people, no way, nobody has been on the log. */
    static LogRollers three() {
        LogRollers x = new LogRollers();
        x.roller(1, 80);
        x.roller(2, 100);
        x.roller(5, 60);
        return x;
    }

    /**
     * A RUNNER (0) and a ROLLER (1), each of weight 1, on a log without water and bark, as THICK as 1: TURN is 33 more
     * in each tick. LEAN of the runner is 7, 21, 40, 56, 70 behind the first five ticks, of the other 7, 21, 40, 60, 80.
     */
    static LogRollers bare(int line) {
        LogRollers x = new LogRollers();
        x.roller(1, 1);
        x.roller(0, 1);
        x.set(0, 3, 99);
        x.set(0, 4, 999);
        bareTheLog(x, line);
        return x;
    }

    static void bareTheLog(LogRollers x, int line) {
        x.log(0, 1);
        x.log(1, 0);
        x.log(2, 0);
        x.log(3, line);
    }

    /** Something of everything that an object can hold, an image too; nobody is on the log. */
    static LogRollers crowd() {
        LogRollers x = new LogRollers();
        for (int i = 0; i < 8; i++) {
            x.roller(i % 6, 40 + 10 * i);
        }
        x.set(5, 6, feedAndTell(x, "turn>4:check;lean<-10:hop;else:run"));
        x.set(3, 2, 9);
        x.set(4, 3, 99);
        x.set(6, 4, 999);
        x.seed(-4711);
        x.log(3, 5);
        x.mount(1, 0);
        x.bout(400);
        x.image();
        x.set(2, 1, 299);
        x.set(7, 6, feedAndTell(x, "left<200:back;tick>9:wait"));
        x.log(4, 30);
        x.mount(5, 6);
        x.bout(400);
        x.log(3, 400);
        x.sheet(0, 8, 40);
        x.write(0, 39, -7);
        x.sheet(1, 16, 5);
        x.write(1, 0, 30000);
        x.sheet(2, 64, 3);
        x.write(2, 1, Long.MIN_VALUE);
        feedText(x, "else:hop");
        return x;
    }

    /** As the crowd, with two in the middle of a bout. */
    static LogRollers onLog() {
        LogRollers x = crowd();
        x.mount(7, 2);
        x.bout(5);
        return x;
    }

    /** As many people, ways and bytes as there can be. */
    static LogRollers full() {
        LogRollers x = new LogRollers();
        for (int i = 0; i < 8; i++) {
            x.roller(5 - i % 6, 299 - i);
        }
        for (int i = 0; i < 6; i++) {
            x.set(i, 6, feedAndTell(x, i % 2 == 0 ? "else:run" : "turn<9:back"));
        }
        for (int i = 0; i < 25; i++) {
            x.feed(0x20202020, 4);
        }
        x.sheet(3, 8, 40);
        return x;
    }

    /** Four bytes at once, since an object is good for 512 calls. */
    static void feedText(LogRollers x, String text) {
        for (int i = 0; i < text.length(); i += 4) {
            String part = text.substring(i, Math.min(i + 4, text.length()));
            int bytes = 0;
            for (int k = 0; k < part.length(); k++) {
                bytes = bytes << 8 | part.charAt(k);
            }
            x.feed(bytes, part.length());
        }
    }

    static int feedAndTell(LogRollers x, String text) {
        feedText(x, text);
        return x.way();
    }

    // ---- what is held of a call

    /** The call answers a finding, which is counted, and nothing else changes. */
    static void refused(String what, long finding, Supplier<LogRollers> setting, ToLongFunction<LogRollers> call) {
        LogRollers x = setting.get();
        long[] before = statuses(x);
        Check.due(what, finding, call.applyAsLong(x));
        long[] after = statuses(x);
        int which = (int) (-1000000001L - finding);
        for (int i = -1; i < 7; i++) {
            Check.due(what + ": status " + i + " then", before[i + 1] + (i == -1 || i == which ? 1 : 0), after[i + 1]);
        }
        same(what + ": refused", shown(setting, y -> { }), shown(setting, call::applyAsLong));
    }

    /** The call answers this, which is no finding. */
    static void allowed(String what, long answer, Supplier<LogRollers> setting, ToLongFunction<LogRollers> call) {
        LogRollers x = setting.get();
        long[] before = statuses(x);
        Check.due(what, answer, call.applyAsLong(x));
        long[] after = statuses(x);
        for (int i = -1; i < 7; i++) {
            Check.due(what + ": status " + i + " then", before[i + 1], after[i + 1]);
        }
    }

    /** The call answers this, which is no finding, and nothing changes. */
    static void allowedAndIdle(String what, long answer, Supplier<LogRollers> setting, ToLongFunction<LogRollers> call) {
        allowed(what, answer, setting, call);
        same(what + ": idle", shown(setting, y -> { }), shown(setting, call::applyAsLong));
    }

    private static long[] statuses(LogRollers x) {
        long[] all = new long[8];
        for (int which = -1; which < 7; which++) {
            all[which + 1] = x.status(which);
        }
        return all;
    }

    /** One difference is told, not all that follow from it. */
    static void same(String what, List<String> due, List<String> got) {
        int differ = 0;
        for (int i = 0; i < due.size() && differ == 0; i++) {
            if (!due.get(i).equals(got.get(i))) {
                System.out.println(what + ": " + got.get(i) + ", due is " + due.get(i));
                differ = 1;
            }
        }
        Check.due(what + ": other calls answer as they did", 0, differ);
    }

    /** What other calls show behind this one: each part on an object of its own, within 512 calls. */
    static List<String> shown(Supplier<LogRollers> setting, Consumer<LogRollers> call) {
        List<String> lines = new ArrayList<>();
        LogRollers first = setting.get();
        call.accept(first);
        showWorld(first, lines);
        LogRollers second = setting.get();
        call.accept(second);
        showTapeAndSheets(second, lines);
        LogRollers third = setting.get();
        call.accept(third);
        lines.add("undo() answered " + third.undo());
        showWorld(third, lines);
        lines.add("tear() answered " + third.tear());
        return lines;
    }

    /** What sections 1 and 2 tell, but for the tape. */
    static List<String> world(LogRollers x) {
        List<String> lines = new ArrayList<>();
        showWorld(x, lines);
        return lines;
    }

    private static void showWorld(LogRollers x, List<String> lines) {
        for (int what : new int[] {0, 1, 2, 3, 5}) {
            lines.add("count(" + what + ") answered " + x.count(what));
        }
        for (int what = 0; what < 3; what++) {
            lines.add("now(" + what + ") answered " + x.now(what));
        }
        for (int person = 0; person < 8; person++) {
            for (int what = 0; what < 7; what++) {
                lines.add("of(" + person + ", " + what + ") answered " + x.of(person, what));
            }
        }
        for (int who = 0; who < 2; who++) {
            for (int what = 0; what < 6; what++) {
                lines.add("stands(" + who + ", " + what + ") answered " + x.stands(who, what));
            }
        }
        for (int way = 0; way < 6; way++) {
            lines.add("rules(" + way + ") answered " + x.rules(way));
            lines.add("holds(" + way + ", 5, ..) answered " + x.holds(way, 5, -20, 300, 3));
            lines.add("holds(" + way + ", -5, ..) answered " + x.holds(way, -5, -20, 100, 30));
        }
        for (int person = 0; person < 8; person++) {
            lines.add("push(" + person + ", ..) answered " + x.push(person, -15, 15, 9, 30));
        }
        lines.add("ahead(0, 1, ..) answered " + x.ahead(0, 1, 30, 2));
        showGoingOn(x, lines);
        for (int what = 0; what < 5; what++) {
            lines.add("log(" + what + ", ..) answered " + x.log(what, 1));
        }
    }

    /** How a bout goes on, which also shows what was seen of late. */
    private static void showGoingOn(LogRollers x, List<String> lines) {
        for (int i = 0; i < 4; i++) {
            lines.add("bout(3) answered " + x.bout(3) + ", TURN " + x.now(0) + ", z " + x.count(5));
            for (int what = 1; what < 6; what++) {
                lines.add("then " + what + ": " + x.stands(0, what) + ", " + x.stands(1, what));
            }
        }
    }

    private static void showTapeAndSheets(LogRollers x, List<String> lines) {
        for (int s = 0; s < 4; s++) {
            for (int i = 0; i <= 40; i++) {
                lines.add("write(" + s + ", " + i + ", ..) answered " + x.write(s, i, 0x123456789ABCDEFL));
            }
            lines.add("write(" + s + ", 0, ..) answered " + x.write(s, 0, 0));
        }
        lines.add("count(4) answered " + x.count(4));
        lines.add("way() answered " + x.way() + " with rules " + x.rules(x.count(1) - 1));
        lines.add("wipe() answered " + x.wipe());
    }
}

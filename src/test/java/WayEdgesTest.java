import java.util.List;
import java.util.function.Supplier;

/** The sentences of promises 22 to 26, and of section 2 on THE TEXT, that name an edge: each has a test of its own. */
public final class WayEdgesTest {
    private static final String[] NAMES = {"turn", "lean", "left", "tick"};
    private static final String[] DEEDS = {"run", "check", "back", "wait", "hop"};
    private static final String SIX = "else:run;else:run;else:run;else:run;else:run;else:run";

    public static void main(String[] args) {
        feedRange();
        feedLowestBytes();
        feedFull();
        feedBeyondAheadOfFull();
        wipeOfNoneAndAll();
        wayOfEachNumber();
        wayFull();
        wayFullAheadOfAFault();
        wayWithAFault();
        wayOfNothing();
        tokensThatMayStand();
        wordsThatAreNone();
        bytesBehindADeed();
        bytesAheadOfAName();
        bytesWhereANumberIsDue();
        tokensAsLongAsCanBe();
        numbersUpTo999();
        blanksAsMayBe();
        sixRulesAtMost();
        endsTooEarly();
        bytesUpTo100();
        rulesRange();
        rulesOneToSix();
        holdsWays();
        holdsRanges();
        holdsAtTheNumber();
        holdsAtTheFurthest();
        holdsNone();
        holdsElse();
        holdsTheFirst();
        Check.end();
    }

    private static List<Supplier<LogRollers>> everywhere() {
        return List.of(Edge::fresh, Edge::three, Edge::crowd, Edge::onLog, Edge::full);
    }

    private static LogRollers taped(int bytes) {
        LogRollers x = new LogRollers();
        for (int i = 0; i < bytes / 4; i++) {
            x.feed(0x20202020, 4);
        }
        if (bytes % 4 > 0) {
            x.feed(0x20202020, bytes % 4);
        }
        return x;
    }

    private static void fine(String text, int rules) {
        LogRollers x = new LogRollers();
        Check.due("way of '" + text + "'", 0, Edge.feedAndTell(x, text));
        Check.due("rules of '" + text + "'", rules, x.rules(0));
        Check.due("the tape is empty", 0, x.count(4));
        Check.due("one way there is", 1, x.count(1));
        Check.due("no finding", 0, x.status(-1));
    }

    private static void fault(String text, int place) {
        LogRollers x = new LogRollers();
        Check.due("way of '" + text + "'", -1 - place, Edge.feedAndTell(x, text));
        Check.due("the tape is empty", 0, x.count(4));
        Check.due("no way there is", 0, x.count(1));
        Check.due("no finding", 0, x.status(-1));
    }

    // ---- Promise 22: feed

    private static void feedRange() {
        for (int n = 1; n <= 4; n++) {
            int many = n;
            Edge.allowed("feed of " + n, n, Edge::three, x -> x.feed(-1, many));
            Edge.allowed("feed of " + n + " behind 8", 8 + n, Edge::onLog, x -> x.feed(-1, many));
        }
        for (Supplier<LogRollers> setting : everywhere()) {
            for (int n : Edge.outside(1, 4)) {
                Edge.refused("feed of " + n, Check.BEYOND, setting, x -> x.feed(0x61616161, n));
            }
        }
    }

    /** "the n lowest bytes of a number .., the highest of these first": else:run by one, two, three and four of them. */
    private static void feedLowestBytes() {
        String text = "else:hop;turn>1:run;lean<2:back;";
        String whole = text + "tick<3:wait";
        for (int n = 1; n <= 4; n++) {
            LogRollers x = new LogRollers();
            for (int i = 0; i < whole.length(); i += n) {
                int many = Math.min(n, whole.length() - i);
                int bytes = n % 2 == 0 ? 0 : -1;
                for (int k = 0; k < many; k++) {
                    bytes = bytes << 8 | whole.charAt(i + k);
                }
                Check.due("so many it has", i + many, x.feed(bytes, many));
            }
            Check.due("by " + n, 0, x.way());
            Check.due("rules by " + n, 4, x.rules(0));
        }
        LogRollers high = new LogRollers();
        high.feed(0xFFFFFF20, 1);
        high.feed(0xFFFF2020, 2);
        high.feed(0xFF202020, 3);
        high.feed(0x20202080, 4);
        Check.due("a byte of 128 is the tenth", -10, high.way());
    }

    /** "(bytes, at most 100)": as many as just fit, and one more. */
    private static void feedFull() {
        for (int n = 1; n <= 4; n++) {
            int many = n;
            Edge.allowed("the last " + n, 100, () -> taped(100 - many), x -> x.feed(0x61616161, many));
            Edge.refused("one too many of " + n, Check.FULL, () -> taped(101 - many), x -> x.feed(0x61616161, many));
            Edge.refused(n + " where all is full", Check.FULL, Edge::full, x -> x.feed(0x61616161, many));
        }
        Edge.allowed("fewer still fit", 100, () -> taped(99), x -> x.feed(0x61616161, 1));
        LogRollers x = taped(100);
        x.way();
        Check.due("and anew behind a text", 4, x.feed(0, 4));
        LogRollers y = taped(100);
        y.wipe();
        Check.due("and behind a wipe", 4, y.feed(0, 4));
    }

    private static void feedBeyondAheadOfFull() {
        for (int n : Edge.outside(1, 4)) {
            Edge.refused("feed of " + n + " on a full tape", Check.BEYOND, () -> taped(100), x -> x.feed(0, n));
        }
    }

    // ---- Promise 23: wipe

    private static void wipeOfNoneAndAll() {
        for (int bytes : new int[] {0, 1, 4, 99, 100}) {
            Edge.allowed("wipe of " + bytes, bytes, () -> taped(bytes), LogRollers::wipe);
            LogRollers x = taped(bytes);
            x.wipe();
            Check.due("empty then", 0, x.count(4));
            Check.due("and empty again", 0, x.wipe());
        }
        LogRollers x = Edge.onLog();
        x.wipe();
        Edge.same("a wipe changes the tape alone", Edge.world(Edge.onLog()), Edge.world(x));
    }

    // ---- Promise 24: way

    private static void wayOfEachNumber() {
        LogRollers x = new LogRollers();
        for (int i = 0; i < 6; i++) {
            Check.due("its number", i, Edge.feedAndTell(x, i % 2 == 0 ? "else:run" : "else:run;else:hop"));
            Check.due("so many ways", i + 1, x.count(1));
            Check.due("the tape is empty", 0, x.count(4));
        }
        for (int i = 0; i < 6; i++) {
            Check.due("rules of " + i, i % 2 == 0 ? 1 : 2, x.rules(i));
        }
        Check.due("no finding", 0, x.status(-1));
    }

    /** "FULL (THE TAPE stays)." */
    private static void wayFull() {
        Edge.refused("a 7th", Check.FULL, () -> sixWays("else:run"), LogRollers::way);
        LogRollers x = sixWays("else:run");
        x.way();
        Check.due("its bytes stay", 8, x.count(4));
        Edge.refused("a 7th of 100 bytes", Check.FULL, Edge::full, LogRollers::way);
    }

    private static LogRollers sixWays(String text) {
        LogRollers x = new LogRollers();
        for (int i = 0; i < 6; i++) {
            Edge.feedAndTell(x, "else:back");
        }
        Edge.feedText(x, text);
        return x;
    }

    private static void wayFullAheadOfAFault() {
        Edge.refused("with a fault", Check.FULL, () -> sixWays("turn!"), LogRollers::way);
        Edge.refused("of nothing", Check.FULL, () -> sixWays(""), LogRollers::way);
    }

    /** "(nothing changes but that THE TAPE is empty; no finding)". */
    private static void wayWithAFault() {
        for (Supplier<LogRollers> setting : List.<Supplier<LogRollers>>of(Edge::fresh, Edge::three, Edge::crowd, Edge::onLog)) {
            Supplier<LogRollers> withText = () -> {
                LogRollers x = setting.get();
                x.wipe();
                Edge.feedText(x, "turn<5:run;else:walk");
                return x;
            };
            Edge.allowed("a fault", -17, withText, LogRollers::way);
            Edge.same("a fault is as a wipe", Edge.shown(withText, LogRollers::wipe), Edge.shown(withText, LogRollers::way));
        }
        LogRollers x = new LogRollers();
        Edge.feedAndTell(x, "turn<5:run;else:walk");
        Check.due("rules ahead of a fault are no way", Check.BEYOND, x.rules(0));
        Check.due("the next has the number", 0, Edge.feedAndTell(x, "else:run"));
        Check.due("and its own rules alone", 1, x.rules(0));
    }

    private static void wayOfNothing() {
        fault("", 0);
        fault(" ", 1);
    }

    // ---- Section 2: "FAULT: the place .. of the first byte of the first TOKEN that can't stand there"

    /** Texts up to a place where something is due, what may stand there, and whether it may end behind that. */
    private static void tokensThatMayStand() {
        for (String blank : new String[] {"", " ", "   "}) {
            due("", blank, "turn lean left tick else", false);
            due("else:run;", blank, "turn lean left tick else", false);
            due("turn", blank, "< >", false);
            due("else", blank, ":", false);
            due("lean<", blank, "- 0 999", false);
            due("left>", blank, "- 0 999", false);
            due("tick<-", blank, "0 999", false);
            due("turn>5", blank, ":", false);
            due("turn>-5", blank, ":", false);
            due("turn>-5:", blank, "run check back wait hop", true);
            due("else:", blank, "run check back wait hop", true);
            due("else:run", blank, ";", false);
            due("turn<1:hop", blank, ";", false);
            due(SIX, blank, "", false);
            due(SIX + ";", blank, "", false);
        }
    }

    private static void due(String ahead, String blank, String may, boolean isEnd) {
        List<String> allowed = List.of(may.split(" "));
        for (String token : "turn lean left tick else run check back wait hop walk x 0 999 1000 - < > : ; = ! T".split(" ")) {
            // Two words or two numbers side by side are one token, unless a blank is between.
            boolean isJoined = blank.isEmpty() && !ahead.isEmpty() && isOneToken(ahead.charAt(ahead.length() - 1), token.charAt(0));
            if (isJoined) {
                continue;
            }
            String text = ahead + blank + token;
            if (!allowed.contains(token)) {
                boolean isSixAndOn = ahead.equals(SIX) && token.equals(";");
                fault(text, isSixAndOn ? text.length() : ahead.length() + blank.length());
            } else if (isEnd) {
                Check.due("way of '" + text + "'", 0, Edge.feedAndTell(new LogRollers(), text));
            } else {
                fault(text, text.length());
            }
        }
    }

    private static boolean isOneToken(char a, char b) {
        return Character.isLowerCase(a) && Character.isLowerCase(b) || Character.isDigit(a) && Character.isDigit(b);
    }

    /** "another WORD": each name and deed with a letter less, more, or other. */
    private static void wordsThatAreNone() {
        for (String name : NAMES) {
            fine(name + "<1:run", 1);
            for (String other : List.of(name.substring(1), name.substring(0, 3), name + "s", "a" + name, "z" + name.substring(1), name.substring(0, 3) + "z", name + name)) {
                fault(other + "<1:run", 0);
                fault(" " + other + ">1:run", 1);
            }
        }
        for (String deed : DEEDS) {
            fine("else:" + deed, 1);
            String cut = deed.substring(0, deed.length() - 1);
            for (String other : List.of(deed.substring(1), cut, deed + "s", "a" + deed, "z" + deed.substring(1), cut + "z", deed + deed)) {
                fault("else:" + other, 5);
                fault("turn<1: " + other, 8);
            }
        }
        for (String other : List.of("els", "lse", "elsee", "aelse", "elsz")) {
            fault(other + ":run", 0);
        }
    }

    /** "a byte that begins no TOKEN": each of the 256 behind a whole text. */
    private static void bytesBehindADeed() {
        for (int b = 0; b < 256; b++) {
            String text = "else:run" + (char) b;
            if (b == ' ') {
                fine(text, 1);
            } else {
                fault(text, b >= 'a' && b <= 'z' ? 5 : b == ';' ? 9 : 8);
            }
        }
    }

    private static void bytesAheadOfAName() {
        for (int b = 0; b < 256; b++) {
            String text = (char) b + "turn<7:hop";
            if (b == ' ') {
                fine(text, 1);
            } else {
                fault(text, 0);
            }
        }
    }

    private static void bytesWhereANumberIsDue() {
        for (int b = 0; b < 256; b++) {
            String text = "turn<" + (char) b + ":hop";
            if (b >= '0' && b <= '9') {
                fine(text, 1);
            } else {
                fault(text, b == '-' || b == ' ' ? 6 : 5);
            }
        }
    }

    private static void tokensAsLongAsCanBe() {
        fault("turnlean<1:run", 0);
        fault("else:runelse", 5);
        fault("turn<12 3:run", 8);
        fault("turn<1-2:run", 6);
        fine("turn<1:run;turn<12:run;turn<123:run", 3);
        LogRollers x = new LogRollers();
        Edge.feedAndTell(x, "turn<12:run");
        Check.due("11 is below 12", 0, x.holds(0, 11, 0, 0, 0));
        Check.due("12 is not", Check.NONE, x.holds(0, 12, 0, 0, 0));
    }

    /** "NUMBERS (digits, 999 at most)", "a NUMBER above 999". */
    private static void numbersUpTo999() {
        for (String sign : new String[] {"", "-", "- "}) {
            int place = 5 + sign.length();
            for (String number : List.of("0", "9", "99", "999", "00", "0999", "0000000000000000000999")) {
                fine("turn<" + sign + number + ":run", 1);
            }
            for (String number : List.of("1000", "1001", "9999", "01000", "2147483648", "4294967296", "4294967301", "18446744073709551616", "99999999999999999999999")) {
                fault("turn<" + sign + number + ":run", place);
            }
        }
    }

    private static void blanksAsMayBe() {
        fine("  turn  <  -  5  :  run  ;  else  :  hop  ", 2);
        fine("turn<-5:run;else:hop", 2);
        fault("tu rn<5:run", 0);
        fault("turn<5:r un", 7);
        fault("turn<5:run\t", 10);
        fault("turn<5:run\n;else:run", 10);
        fault("turn<5:run\r", 10);
        fault("turn<5:run" + (char) 160, 10);
    }

    /** "6 RULES at most", "the first TOKEN of a 7th RULE: its own". */
    private static void sixRulesAtMost() {
        fine(SIX.substring(9), 5);
        fine(SIX, 6);
        fine(SIX + "   ", 6);
        int length = SIX.length();
        fault(SIX + ";else:run", length + 1);
        fault(SIX + ";  turn<5:run", length + 3);
        fault(SIX + ";!", length + 1);
        fault(SIX + ";;", length + 1);
        fault(SIX + ";1000", length + 1);
        fault(SIX + ";", length + 1);
        fault(SIX + ";  ", length + 3);
        fault(SIX + "else:run", length - 3);
        fault(SIX + " else:run", length + 1);
    }

    /** "or how many bytes there are if it ends too early". */
    private static void endsTooEarly() {
        String text = "turn>-5:check";
        for (int length : new int[] {0, 4, 5, 6, 7, 8}) {
            fault(text.substring(0, length), length);
            fault(text.substring(0, length) + "  ", length + 2);
        }
        fault("else", 4);
        fault("else:", 5);
        fault(text + ";", 14);
        fault(text + " ; ", 16);
        fault("tur", 0);
        fault("turn>-5:chec", 8);
    }

    private static void bytesUpTo100() {
        String blanks = " ".repeat(100);
        fine(blanks.substring(8) + "else:run", 1);
        fine("else:run" + blanks.substring(8), 1);
        fine("turn<" + "0".repeat(91) + ":run", 1);
        fault(blanks, 100);
        fault(blanks.substring(1) + "x", 99);
        fault(blanks.substring(8) + "turn<100", 100);
        fault("else:" + "r".repeat(95), 5);
        fault("turn<" + "9".repeat(95), 5);
        fault("turn<" + "0".repeat(95), 100);
    }

    // ---- Promise 25: rules

    private static void rulesRange() {
        Edge.refused("rules of none", Check.BEYOND, Edge::three, x -> x.rules(0));
        Edge.allowedAndIdle("rules of the first", 3, Edge::crowd, x -> x.rules(0));
        Edge.allowedAndIdle("rules of the last", 2, Edge::crowd, x -> x.rules(1));
        Edge.allowedAndIdle("rules of the 6th", 1, Edge::full, x -> x.rules(5));
        for (int way : Edge.outside(0, 1)) {
            Edge.refused("rules of " + way, Check.BEYOND, Edge::onLog, x -> x.rules(way));
        }
        for (int way : Edge.outside(0, 5)) {
            Edge.refused("rules of " + way, Check.BEYOND, Edge::full, x -> x.rules(way));
        }
    }

    private static void rulesOneToSix() {
        for (int n = 1; n <= 6; n++) {
            fine(SIX.substring(0, 9 * n - 1), n);
        }
    }

    // ---- Promise 26: holds

    private static void holdsWays() {
        Edge.refused("holds of none", Check.BEYOND, Edge::three, x -> x.holds(0, 0, 0, 0, 0));
        Edge.allowedAndIdle("holds of the 6th", 0, Edge::full, x -> x.holds(5, 8, 0, 0, 0));
        for (int way : Edge.outside(0, 1)) {
            Edge.refused("holds of " + way, Check.BEYOND, Edge::onLog, x -> x.holds(way, 0, 0, 0, 0));
        }
        for (int way : Edge.outside(0, 5)) {
            Edge.refused("holds of " + way, Check.BEYOND, Edge::full, x -> x.holds(way, 0, 0, 0, 0));
        }
    }

    /** "by s, l, e, t as in push()": BEYOND is asked ahead of NONE. */
    private static void holdsRanges() {
        int[][] ranges = {{-9999, 9999}, {-999, 999}, {0, 999}, {0, 999}};
        for (int place = 0; place < 4; place++) {
            int at = place;
            for (int v : ranges[at]) {
                int[] a = new int[4];
                a[at] = v;
                Edge.allowedAndIdle("argument " + at + " is " + v, 0, () -> told("else:run"), x -> x.holds(0, a[0], a[1], a[2], a[3]));
            }
            for (int v : Edge.outside(ranges[at][0], ranges[at][1])) {
                int[] a = new int[4];
                a[at] = v;
                Edge.refused("argument " + at + " is " + v, Check.BEYOND, () -> told("else:run"), x -> x.holds(0, a[0], a[1], a[2], a[3]));
                Edge.refused("where none holds, " + at + " is " + v, Check.BEYOND, () -> told("left<0:run"), x -> x.holds(0, a[0], a[1], a[2], a[3]));
            }
        }
    }

    private static LogRollers told(String text) {
        LogRollers x = new LogRollers();
        Check.due("way of '" + text + "'", 0, Edge.feedAndTell(x, text));
        return x;
    }

    /** < and > are strict: below the number, at it, above it; and each name is its own argument. */
    private static void holdsAtTheNumber() {
        for (int name = 0; name < 4; name++) {
            for (int number : name < 2 ? new int[] {-7, -1, 0, 1, 7} : new int[] {1, 7, 500}) {
                String sign = number < 0 ? "-" : "";
                LogRollers less = told(NAMES[name] + "<" + sign + Math.abs(number) + ":run");
                LogRollers more = told(NAMES[name] + ">" + sign + Math.abs(number) + ":run");
                for (int off = -1; off <= 1; off++) {
                    int[] a = withNamed(name, number + off, off < 0);
                    int[] b = withNamed(name, number + off, off <= 0);
                    Check.due(NAMES[name] + " of " + (number + off) + " < " + number, off < 0 ? 0 : Check.NONE, less.holds(0, a[0], a[1], a[2], a[3]));
                    Check.due(NAMES[name] + " of " + (number + off) + " > " + number, off > 0 ? 0 : Check.NONE, more.holds(0, b[0], b[1], b[2], b[3]));
                }
            }
        }
    }

    /** What is not named is as great, or as small, as can be, so that it would answer the other way. */
    private static int[] withNamed(int name, int v, boolean areOthersGreat) {
        int[] a = areOthersGreat ? new int[] {999, 999, 999, 999} : new int[] {-999, -999, 0, 0};
        a[name] = v;
        return a;
    }

    private static void holdsAtTheFurthest() {
        Check.due("turn 999 > 999", Check.NONE, told("turn>999:run").holds(0, 999, 0, 0, 0));
        Check.due("turn 1000 > 999", 0, told("turn>999:run").holds(0, 1000, 0, 0, 0));
        Check.due("turn 9999 > 999", 0, told("turn>999:run").holds(0, 9999, 0, 0, 0));
        Check.due("turn -999 < -999", Check.NONE, told("turn<-999:run").holds(0, -999, 0, 0, 0));
        Check.due("turn -1000 < -999", 0, told("turn<-999:run").holds(0, -1000, 0, 0, 0));
        Check.due("lean 999 > 998", 0, told("lean>998:run").holds(0, 0, 999, 0, 0));
        Check.due("lean 999 > 999", Check.NONE, told("lean>999:run").holds(0, 0, 999, 0, 0));
        Check.due("lean -999 < -998", 0, told("lean<-998:run").holds(0, 0, -999, 0, 0));
        Check.due("left 0 < 0", Check.NONE, told("left<0:run").holds(0, 0, 0, 0, 0));
        Check.due("left 0 < -0", Check.NONE, told("left<-0:run").holds(0, 0, 0, 0, 0));
        Check.due("left 0 > -1", 0, told("left>-1:run").holds(0, 0, 0, 0, 0));
        Check.due("left 999 > 998", 0, told("left>998:run").holds(0, 0, 0, 999, 0));
        Check.due("tick 0 > -1", 0, told("tick>-1:run").holds(0, 0, 0, 0, 0));
        Check.due("tick 999 > 998", 0, told("tick>998:run").holds(0, 0, 0, 0, 999));
    }

    private static void holdsNone() {
        Edge.refused("none does", Check.NONE, () -> told("turn>5:run;lean>5:run"), x -> x.holds(0, 5, 5, 0, 0));
        Edge.allowedAndIdle("the last does", 1, () -> told("turn>5:run;lean>5:run"), x -> x.holds(0, 5, 6, 0, 0));
        Edge.refused("none of the crowd's", Check.NONE, Edge::onLog, x -> x.holds(1, 0, 0, 200, 9));
        Edge.allowedAndIdle("one of the crowd's", 0, Edge::onLog, x -> x.holds(1, 0, 0, 199, 9));
    }

    private static void holdsElse() {
        LogRollers x = told("else:wait");
        for (int[] a : new int[][] {{9999, 999, 999, 999}, {-9999, -999, 0, 0}, {0, 0, 0, 0}}) {
            Check.due("else holds always", 0, x.holds(0, a[0], a[1], a[2], a[3]));
        }
        Check.due("also behind another", 1, told("turn>5:run;else:wait").holds(0, 5, 0, 0, 0));
    }

    private static void holdsTheFirst() {
        LogRollers x = told("tick<1:run;tick<2:run;tick<3:run;tick<4:run;tick<5:run;tick<6:run");
        for (int tick = 0; tick < 6; tick++) {
            Check.due("in tick " + tick, tick, x.holds(0, 0, 0, 0, tick));
        }
        Check.due("in tick 6", Check.NONE, x.holds(0, 0, 0, 0, 6));
    }
}

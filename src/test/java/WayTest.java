/** Promises 22 to 26: feed, wipe, way, rules, holds. */
public final class WayTest {
    public static void main(String[] args) {
        theTape();
        textsThatAreFine();
        faults();
        aFullTape();
        bytesOfOldTexts();
        whenItIsFull();
        whichHolds();
        Check.end();
    }

    private static void theTape() {
        LogRollers x = new LogRollers();
        for (int n : new int[] {0, 5, -1, Integer.MIN_VALUE, Integer.MAX_VALUE}) {
            Check.due("feed of " + n, Check.BEYOND, x.feed(0, n));
        }
        Check.due("wipe of nothing", 0, x.wipe());
        for (int i = 1; i <= 24; i++) {
            Check.due("feed", 4 * i, x.feed(-1, 4));
        }
        Check.due("3 more", 99, x.feed(1, 3));
        Check.due("2 are too many", Check.FULL, x.feed(1, 2));
        Check.due("too many and beyond", Check.BEYOND, x.feed(1, 5));
        Check.due("it stays", 99, x.count(4));
        Check.due("1 fits", 100, x.feed(1, 1));
        Check.due("no more", Check.FULL, x.feed(1, 1));
        Check.due("wipe", 100, x.wipe());
        Check.due("it is empty", 0, x.count(4));

        // "else" ":run" with bytes above those that count
        x.feed(0x656C7365, 4);
        x.feed(0x7F3A7275, 3);
        x.feed(0x7F7F7F6E, 1);
        Check.due("the lowest bytes, the highest first", 0, x.way());
        Check.due("the tape is empty then", 0, x.count(4));
    }

    private static void textsThatAreFine() {
        String[][] texts = {
            {"else:run", "1"},
            {"  else  :  run  ", "1"},
            {"turn<5:run", "1"},
            {"turn > - 5 : check", "1"},
            {"lean<-999:hop;left>999:back;tick>0:wait;else:run", "4"},
            {"turn<000000005:run", "1"},
            {"turn<-0:run", "1"},
            {"else:run;else:run;else:run;else:run;else:run;else:run", "6"},
        };
        for (String[] t : texts) {
            LogRollers x = new LogRollers();
            Check.due("way of '" + t[0] + "'", 0, Check.tell(x, t[0]));
            Check.due("rules of '" + t[0] + "'", Integer.parseInt(t[1]), x.rules(0));
            Check.due("no other way", Check.BEYOND, x.rules(1));
        }
        LogRollers x = new LogRollers();
        Check.due("rules of none", Check.BEYOND, x.rules(0));
        Check.due("rules below", Check.BEYOND, x.rules(-1));
    }

    private static void fault(String text, int place) {
        LogRollers x = new LogRollers();
        Check.due("fault of '" + text + "'", -1 - place, Check.tell(x, text));
        Check.due("the tape is empty", 0, x.count(4));
        Check.due("no way is made", 0, x.count(1));
        Check.due("no finding", 0, x.status(-1));
    }

    private static void faults() {
        fault("", 0);
        fault("    ", 4);
        fault(";", 0);
        fault("run", 0);
        fault(" turns<5:run", 1);
        fault("turn", 4);
        fault("turn  ", 6);
        fault("turn=5:run", 4);
        fault("turn:run", 4);
        fault("turn<", 5);
        fault("turn<<5:run", 5);
        fault("turn<-", 6);
        fault("turn<--5:run", 6);
        fault("turn<run", 5);
        fault("turn<1000:run", 5);
        fault("turn<-1000:run", 6);
        fault("turn<0001000:run", 5);
        fault("turn<99999999999999999999:run", 5);
        fault("turn<5", 6);
        fault("turn<5run", 6);
        fault("turn<5 5:run", 7);
        fault("turn<5:", 7);
        fault("turn<5:5", 7);
        fault("turn<5:else", 7);
        fault("turn<5:ru", 7);
        fault("turn<5:run:", 10);
        fault("turn<5:run turn", 11);
        fault("turn<5:run;", 11);
        fault("turn<5:run;  ", 13);
        fault("turn<5:run;;", 11);
        fault("turn<5:Run", 7);
        fault("turn<5:run\n", 10);
        fault("\tturn<5:run", 0);
        fault("else<5:run", 4);
        fault("else", 4);
        fault("else:", 5);
        fault("else:turn", 5);
        fault("elserun", 0);
        fault("burn<5:run", 0);
        fault("zurn<5:run", 0);
        fault("turn<5:sun", 7);
        fault("turn<5:runz", 7);
        fault("5", 0);
        fault("else:run" + (char) 0, 8);
        fault("else:run" + (char) 225, 8);
        String six = "else:run;else:run;else:run;else:run;else:run;else:run";
        fault(six + ";", six.length() + 1);
        fault(six + "; ", six.length() + 2);
        fault(six + ";  else:run", six.length() + 3);
        fault(six + ";1000", six.length() + 1);
        fault(six + " else", six.length() + 1);
    }

    /** Texts of 100 bytes, of which each kind of token is the last one. */
    private static void aFullTape() {
        String blanks = " ".repeat(100);
        Check.due("deed at the end", 0, Check.tell(new LogRollers(), blanks.substring(8) + "else:run"));
        Check.due("blanks at the end", 0, Check.tell(new LogRollers(), "else:run" + blanks.substring(8)));
        Check.due("blanks alone", -101, Check.tell(new LogRollers(), blanks));
        Check.due("digits at the end", -101, Check.tell(new LogRollers(), "turn<" + "0".repeat(95)));
        Check.due("letters at the end", -6, Check.tell(new LogRollers(), "else:" + "r".repeat(95)));
        Check.due("a sign at the end", -101, Check.tell(new LogRollers(), blanks.substring(5) + "else:"));
        Check.due("; at the end", -101, Check.tell(new LogRollers(), blanks.substring(9) + "else:run;"));
        Check.due("nothing fit at the end", -100, Check.tell(new LogRollers(), blanks.substring(9) + "else:run!"));
    }

    /** What the tape had earlier is no part of a text. */
    private static void bytesOfOldTexts() {
        LogRollers x = new LogRollers();
        Check.due("a long text", 0, Check.tell(x, "turn<555:run;else:check"));
        Check.due("a short one", 1, Check.tell(x, "turn<5:run"));
        Check.due("a number cut short", -7, Check.tell(x, "turn<5"));
        Check.due("a word cut short", -8, Check.tell(x, "turn<5:ru"));
        Check.due("blanks", -21, Check.tell(x, " ".repeat(20)));
        Check.due("fewer blanks", -4, Check.tell(x, "   "));
        Check.due("nothing", -1, Check.tell(x, ""));
    }

    private static void whenItIsFull() {
        LogRollers x = new LogRollers();
        for (int i = 0; i < 6; i++) {
            Check.due("way " + i, i, Check.tell(x, "else:run"));
        }
        Check.feedText(x, "else:run");
        Check.due("a 7th", Check.FULL, x.way());
        Check.due("the tape stays", 8, x.count(4));
        x.wipe();
        Check.due("with a fault too", Check.FULL, x.way());
        Check.due("6 there are", 6, x.count(1));
    }

    private static void whichHolds() {
        LogRollers x = new LogRollers();
        Check.due("no such way", Check.BEYOND, x.holds(0, 0, 0, 0, 0));
        Check.tell(x, "turn<-3:run;turn>40:run;lean>7:run;left<9:run;tick>100:run");
        Check.due("turn below", 0, x.holds(0, -4, 0, 99, 0));
        Check.due("turn not below", Check.NONE, x.holds(0, -3, 0, 99, 0));
        Check.due("turn above", 1, x.holds(0, 41, 0, 99, 0));
        Check.due("turn not above", Check.NONE, x.holds(0, 40, 0, 99, 0));
        Check.due("lean", 2, x.holds(0, 0, 8, 99, 0));
        Check.due("lean not", Check.NONE, x.holds(0, 0, 7, 99, 0));
        Check.due("left", 3, x.holds(0, 0, 0, 8, 0));
        Check.due("left not", Check.NONE, x.holds(0, 0, 0, 9, 0));
        Check.due("tick", 4, x.holds(0, 0, 0, 99, 101));
        Check.due("tick not", Check.NONE, x.holds(0, 0, 0, 99, 100));
        Check.due("the first of several", 2, x.holds(0, 0, 999, 0, 999));
        Check.tell(x, "turn>5:run;else:wait;turn>0:run");
        Check.due("else", 1, x.holds(1, 1, 0, 0, 0));
        Check.due("before else", 0, x.holds(1, 6, 0, 0, 0));
        int[][] beyond = {
            {2, 0, 0, 0, 0}, {-1, 0, 0, 0, 0}, {1, 10000, 0, 0, 0}, {1, -10000, 0, 0, 0}, {1, 0, 1000, 0, 0},
            {1, 0, -1000, 0, 0}, {1, 0, 0, -1, 0}, {1, 0, 0, 1000, 0}, {1, 0, 0, 0, -1}, {1, 0, 0, 0, 1000},
        };
        for (int[] b : beyond) {
            Check.due("holds beyond", Check.BEYOND, x.holds(b[0], b[1], b[2], b[3], b[4]));
        }
    }
}

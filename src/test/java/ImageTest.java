/** Promises 32 to 36: image, undo, tear, count, status. */
public final class ImageTest {
    public static void main(String[] args) {
        keptAndUndone();
        undoneInTheMiddleOfABout();
        whatIsNotKept();
        tornImages();
        counts();
        statuses();
        Check.end();
    }

    private static void keptAndUndone() {
        LogRollers x = new LogRollers();
        Check.due("undo of nothing", Check.NONE, x.undo());
        x.roller(5, 10);
        x.roller(1, 20);
        Check.tell(x, "else:run");
        x.set(0, 6, 0);
        x.seed(77);
        x.log(1, 9);
        Check.due("image", 1, x.image());
        x.roller(2, 30);
        Check.tell(x, "else:back");
        x.set(0, 6, 1);
        x.set(1, 1, 99);
        x.seed(5);
        x.log(0, 1);
        x.log(1, 0);
        x.log(2, 0);
        x.log(3, 0);
        x.mount(0, 1);
        x.bout(400);
        Check.due("undo", 2, x.undo());
        Check.due("people", 2, x.count(0));
        Check.due("ways", 1, x.count(1));
        Check.due("falls", 0, x.count(3));
        Check.due("z", 77, x.count(5));
        Check.due("his way", 0, x.of(0, 6));
        Check.due("its deed", 20, x.push(0, 0, 0, 9, 0));
        Check.due("his weight", 20, x.of(1, 1));
        Check.due("OUTCOME of the latest", 0, x.now(2));
        Check.due("TURN", 0, x.now(0));
        Check.due("TICKS", 0, x.now(1));
        int[] parts = {15, 9, 3, 60, 0};
        for (int what = 0; what < 5; what++) {
            Check.due("part " + what, parts[what], x.log(what, 1));
        }
        Check.due("the third is no more", Check.BEYOND, x.of(2, 0));
        Check.due("a third anew", 2, x.roller(0, 1));
        Check.due("with the defaults of a new one", 300, x.of(2, 4));
        Check.due("the second way anew", 1, Check.tell(x, "else:hop"));
        Check.due("it stays kept", 2, x.undo());
        x.roller(3, 3);
        x.image();
        x.roller(4, 4);
        Check.due("the latest counts", 3, x.undo());
    }

    private static void undoneInTheMiddleOfABout() {
        LogRollers x = new LogRollers();
        x.roller(1, 80);
        x.roller(2, 100);
        x.set(1, 2, 9);
        x.log(4, 40);
        x.mount(0, 1);
        x.bout(23);
        x.image();
        x.bout(50);
        int[] due = {x.now(0), x.now(1), x.stands(0, 1), x.stands(1, 1), x.stands(0, 2), x.stands(1, 2), x.stands(0, 3), x.stands(1, 4), x.count(5)};
        x.off();
        x.mount(1, 0);
        x.bout(7);
        x.undo();
        Check.due("TICKS are back", 23, x.now(1));
        Check.due("FIRST is back", 0, x.stands(0, 0));
        x.bout(50);
        int[] got = {x.now(0), x.now(1), x.stands(0, 1), x.stands(1, 1), x.stands(0, 2), x.stands(1, 2), x.stands(0, 3), x.stands(1, 4), x.count(5)};
        for (int i = 0; i < due.length; i++) {
            Check.due("the bout goes on as it did: " + i, due[i], got[i]);
        }
    }

    private static void whatIsNotKept() {
        LogRollers x = new LogRollers();
        x.sheet(0, 8, 2);
        x.feed('e', 1);
        x.image();
        x.write(0, 0, 7);
        x.sheet(1, 16, 1);
        x.feed('l', 1);
        x.of(0, 0);
        x.undo();
        Check.due("sheets stay", 7, x.write(0, 0, 0));
        Check.due("new ones too", 0, x.write(1, 0, 0));
        Check.due("the tape stays", 2, x.count(4));
        Check.due("findings stay", 1, x.status(0));
    }

    private static void tornImages() {
        LogRollers x = new LogRollers();
        Check.due("nothing to tear", 0, x.tear());
        x.image();
        x.image();
        Check.due("tear", 1, x.tear());
        Check.due("tear again", 0, x.tear());
        Check.due("undo then", Check.NONE, x.undo());
        x.roller(0, 1);
        x.image();
        Check.due("kept anew", 1, x.undo());
    }

    private static void counts() {
        LogRollers x = new LogRollers();
        for (int what : new int[] {-1, 6, Integer.MIN_VALUE, Integer.MAX_VALUE}) {
            Check.due("count " + what, Check.BEYOND, x.count(what));
        }
        x.seed(-1500000000);
        Check.due("z of any number", -1500000000, x.count(5));
        Check.due("is no finding", 4, x.status(-1));
    }

    private static void statuses() {
        LogRollers x = new LogRollers();
        x.of(0, 0);
        x.undo();
        x.off();
        x.off();
        x.write(0, 0, 0);
        x.sheet(0, 8, -1);
        x.sheet(0, 8, 1);
        x.sheet(1, 16, 1);
        x.copy(0, 0, 1, 0, 1);
        for (int i = 0; i < 25; i++) {
            x.feed(0, 4);
        }
        x.feed(0, 1);
        int[] due = {1, 1, 1, 1, 2, 1, 1};
        for (int which = 0; which < 7; which++) {
            Check.due("status " + which, due[which], x.status(which));
        }
        Check.due("all", 8, x.status(-1));
        Check.due("another one", Check.BEYOND, x.status(7));
        Check.due("counted from then on", 9, x.status(-1));
        Check.due("another one below", Check.BEYOND, x.status(-2));
        Check.due("BEYOND so far", 3, x.status(0));
    }
}

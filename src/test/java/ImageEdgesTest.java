import java.util.List;
import java.util.function.Supplier;
import java.util.function.ToLongFunction;

/** The sentences of promises 32 to 36, and of FINDINGS, that name an edge: each has a test of its own. */
public final class ImageEdgesTest {
    public static void main(String[] args) {
        imageOfAll();
        imageChangesNothingElse();
        imageTheLatest();
        imageKeepsEachPart();
        imageNotTheTape();
        imageNotTheSheets();
        undoNothing();
        undoStays();
        undoOfNoPeople();
        undoOfAFullOne();
        undoBringsThemBackOn();
        undoTakesThemOff();
        undoWhatWasSeen();
        undoMakesRoom();
        undoOfWays();
        tearSomethingAndNothing();
        tearChangesNothingElse();
        countRange();
        countOfEach();
        countZIsNoFinding();
        statusRange();
        statusCountsItself();
        statusOfEach();
        statusIsNotUndone();
        findingsAsNumbers();
        Check.end();
    }

    private static List<Supplier<LogRollers>> everywhere() {
        return List.of(Edge::fresh, Edge::three, Edge::crowd, Edge::onLog, Edge::full);
    }

    /** Everything that an image keeps becomes something else; what it was has at most 8 people and 6 ways. */
    private static void wreck(LogRollers x) {
        x.off();
        x.roller(3, 33);
        x.roller(1, 11);
        x.wipe();
        Edge.feedAndTell(x, "tick<3:hop;else:back");
        for (int person = 0; person < 8; person++) {
            x.set(person, 1, 1 + person);
            x.set(person, 2, 9 - person);
            x.set(person, 3, 90 + person);
            x.set(person, 4, 900 + person);
            x.set(person, 6, x.of(person, 6) == 0 ? -1 : 0);
        }
        x.log(0, 1);
        x.log(1, 1);
        x.log(2, 1);
        x.log(3, 3);
        x.log(4, 9);
        x.seed(31415);
        x.mount(1, 0);
        x.bout(400);
        x.mount(0, 1);
        x.bout(1);
    }

    // ---- Promise 32: "All that sections 1 and 2 tell (THE TAPE not) is kept: 1."

    private static void imageOfAll() {
        for (Supplier<LogRollers> setting : everywhere()) {
            LogRollers x = setting.get();
            Check.due("image", 1, x.image());
            wreck(x);
            Check.due("undo tells how many PEOPLE", setting.get().count(0), x.undo());
            Edge.same("undo", Edge.world(setting.get()), Edge.world(x));
        }
    }

    private static void imageChangesNothingElse() {
        for (Supplier<LogRollers> setting : everywhere()) {
            LogRollers x = setting.get();
            x.image();
            Edge.same("image", Edge.world(setting.get()), Edge.world(x));
            Edge.allowed("image", 1, setting, LogRollers::image);
            Edge.allowed("image again", 1, setting, y -> y.image() + y.image() - 1);
        }
    }

    /** "what was kept latest". */
    private static void imageTheLatest() {
        LogRollers x = Edge.crowd();
        x.image();
        wreck(x);
        x.image();
        x.undo();
        LogRollers y = Edge.crowd();
        wreck(y);
        Edge.same("the latest image", Edge.world(y), Edge.world(x));
    }

    /** One change at a time is undone. */
    private static void imageKeepsEachPart() {
        for (int what : new int[] {1, 2, 3, 4, 6}) {
            undone("what " + what + " of the first", Edge::crowd, x -> x.set(0, what, what == 6 ? 1 : 7));
            undone("what " + what + " of the last", Edge::crowd, x -> x.set(7, what, what == 6 ? 0 : 7));
        }
        for (int what = 0; what < 5; what++) {
            int w = what;
            undone("part " + what, Edge::crowd, x -> x.log(w, 9));
        }
        undone("z", Edge::crowd, x -> x.seed(5));
        undone("somebody new", Edge::three, x -> x.roller(4, 4));
        undone("the first ones", Edge::fresh, x -> x.roller(4, 4) + x.roller(3, 3));
        undone("getting on", Edge::crowd, x -> x.mount(3, 4));
        undone("a tick", Edge::onLog, x -> x.bout(1));
        undone("getting off", Edge::onLog, LogRollers::off);
        undone("others on the log", Edge::onLog, x -> x.off() + x.mount(2, 7));
        undone("a fall", Edge::onLog, x -> x.log(3, 0) + x.bout(400));
        undone("another outcome", () -> Edge.bare(70), x -> x.mount(0, 1) + x.bout(9));
        undone("a way", Edge::three, x -> Edge.feedAndTell(x, "else:run"));
    }

    private static void undone(String what, Supplier<LogRollers> setting, ToLongFunction<LogRollers> change) {
        LogRollers x = setting.get();
        x.image();
        change.applyAsLong(x);
        x.undo();
        Edge.same("undo of " + what, Edge.world(setting.get()), Edge.world(x));
        LogRollers changed = setting.get();
        change.applyAsLong(changed);
        Check.due(what + " can be seen", 0, Edge.world(changed).equals(Edge.world(setting.get())) ? 1 : 0);
    }

    private static void imageNotTheTape() {
        LogRollers x = Edge.crowd();
        x.image();
        x.feed('!', 1);
        x.undo();
        Check.due("a byte more", 9, x.count(4));
        Check.due("is there", -9, x.way());
        LogRollers y = Edge.crowd();
        y.image();
        y.wipe();
        y.undo();
        Check.due("an empty one stays so", 0, y.count(4));
        LogRollers w = Edge.crowd();
        w.image();
        w.way();
        w.undo();
        Check.due("the way is undone", 2, w.count(1));
        Check.due("its text is gone", 0, w.count(4));
    }

    private static void imageNotTheSheets() {
        LogRollers x = Edge.crowd();
        x.image();
        x.write(0, 0, 77);
        x.sheet(3, 64, 2);
        x.sheet(2, 0, 0);
        x.undo();
        Check.due("a number", 77, x.write(0, 0, 0));
        Check.due("a new sheet", 0, x.write(3, 1, 0));
        Check.due("one that is MISSING now", Check.MISSING, x.write(2, 0, 0));
    }

    // ---- Promise 33: undo

    /** "NONE: nothing is kept." */
    private static void undoNothing() {
        Edge.refused("undo of a new object", Check.NONE, Edge::fresh, LogRollers::undo);
        Edge.refused("undo of three", Check.NONE, Edge::three, LogRollers::undo);
        Edge.refused("undo where all is full", Check.NONE, Edge::full, LogRollers::undo);
        Edge.refused("undo of what is torn", Check.NONE, () -> {
            LogRollers x = Edge.onLog();
            x.tear();
            return x;
        }, LogRollers::undo);
    }

    /** "(which stays)". */
    private static void undoStays() {
        LogRollers x = Edge.onLog();
        x.image();
        for (int i = 0; i < 3; i++) {
            wreck(x);
            Check.due("undo " + i, 8, x.undo());
            x.bout(3);
            Check.due("undo " + i + " again", 8, x.undo());
        }
        Check.due("undo had no finding", 0, x.status(3));
        Edge.same("behind all that", Edge.world(Edge.onLog()), Edge.world(x));
    }

    private static void undoOfNoPeople() {
        LogRollers x = new LogRollers();
        x.image();
        wreck(x);
        Check.due("nobody", 0, x.undo());
        Check.due("count", 0, x.count(0));
        Check.due("of the first", Check.BEYOND, x.of(0, 0));
        Check.due("no finding was undo's", 0, x.status(3));
    }

    private static void undoOfAFullOne() {
        LogRollers x = Edge.full();
        x.image();
        wreck(x);
        Check.due("all eight", 8, x.undo());
        Check.due("and full", Check.FULL, x.roller(0, 1));
        Check.due("with all ways", 6, x.count(1));
        Check.due("and full of these", Check.FULL, x.way());
    }

    private static void undoBringsThemBackOn() {
        LogRollers x = Edge.onLog();
        x.image();
        x.off();
        x.set(7, 1, 5);
        x.undo();
        Check.due("FIRST is on the log", Check.STATE, x.set(7, 1, 5));
        Check.due("SECOND is on the log", Check.STATE, x.set(2, 1, 5));
        Check.due("nobody else gets on", Check.STATE, x.mount(0, 1));
        Check.due("5 ticks there were", 5, x.off());
    }

    private static void undoTakesThemOff() {
        LogRollers x = Edge.crowd();
        x.image();
        x.mount(3, 4);
        x.undo();
        Check.due("nobody is on it", Check.STATE, x.off());
        Check.due("they can be changed", 70, x.set(3, 1, 5));
        Check.due("others get on", 1, x.mount(0, 1));
    }

    /** What one with a LAG sees is of the bout that is back, not of the one that was undone. */
    private static void undoWhatWasSeen() {
        for (int lag = 0; lag <= 9; lag++) {
            LogRollers x = Edge.bare(999);
            x.set(1, 2, lag);
            x.roller(1, 299);
            x.mount(0, 1);
            x.bout(10);
            x.image();
            x.off();
            x.mount(2, 1);
            x.bout(13);
            x.undo();
            for (int tick = 10; tick < 13; tick++) {
                Check.due("lag " + lag + " in tick " + tick, 33 * (tick - lag), x.stands(1, 4));
                x.bout(1);
            }
        }
    }

    private static void undoMakesRoom() {
        LogRollers x = Edge.three();
        x.image();
        for (int i = 3; i < 8; i++) {
            x.roller(1, 9);
            x.set(i, 3, 99);
        }
        Check.due("full", Check.FULL, x.roller(0, 1));
        x.undo();
        Check.due("the fourth anew", 3, x.roller(0, 1));
        int[] due = {0, 1, 2, 20, 300, 0, -1};
        for (int what = 0; what < 7; what++) {
            Check.due("as a new one, what " + what, due[what], x.of(3, what));
        }
    }

    private static void undoOfWays() {
        LogRollers x = Edge.three();
        Edge.feedAndTell(x, "else:run");
        x.set(2, 6, 0);
        x.image();
        for (int i = 1; i < 6; i++) {
            Edge.feedAndTell(x, "else:back;else:back");
        }
        x.set(2, 6, 5);
        Check.due("back", -20, x.push(2, 0, 0, 9, 0));
        x.undo();
        Check.due("his way", 0, x.of(2, 6));
        Check.due("run", 20, x.push(2, 0, 0, 9, 0));
        Check.due("the second is no more", Check.BEYOND, x.rules(1));
        Check.due("nor can it be his", Check.BEYOND, x.set(2, 6, 1));
        Check.due("another second", 1, Edge.feedAndTell(x, "else:wait;else:wait;else:wait"));
        Check.due("with its own rules", 3, x.rules(1));
        x.undo();
        Check.due("the image has its own", Check.BEYOND, x.rules(1));
    }

    // ---- Promise 34: tear

    private static void tearSomethingAndNothing() {
        Edge.allowed("nothing", 0, Edge::fresh, LogRollers::tear);
        Edge.allowed("something", 1, Edge::crowd, LogRollers::tear);
        LogRollers x = Edge.crowd();
        x.image();
        x.image();
        Check.due("several at once", 1, x.tear());
        Check.due("then nothing", 0, x.tear());
        Check.due("undo", Check.NONE, x.undo());
        x.image();
        Check.due("something again", 8, x.undo());
        Check.due("undo has left it", 1, x.tear());
    }

    private static void tearChangesNothingElse() {
        for (Supplier<LogRollers> setting : everywhere()) {
            LogRollers x = setting.get();
            x.tear();
            Edge.same("tear", Edge.world(setting.get()), Edge.world(x));
        }
    }

    // ---- Promise 35: count

    private static void countRange() {
        for (Supplier<LogRollers> setting : everywhere()) {
            for (int what : Edge.outside(0, 5)) {
                Edge.refused("count " + what, Check.BEYOND, setting, x -> x.count(what));
            }
        }
    }

    private static void countOfEach() {
        int[] none = {0, 0, 0, 0, 0, 1};
        int[] full = {8, 6, 0, 0, 100, 1};
        for (int what = 0; what <= 5; what++) {
            int w = what;
            Edge.allowedAndIdle("count " + w + " of a new object", none[w], Edge::fresh, x -> x.count(w));
            Edge.allowedAndIdle("count " + w + " where all is full", full[w], Edge::full, x -> x.count(w));
        }
        Edge.allowedAndIdle("somebody is on the log", 1, Edge::onLog, x -> x.count(2));
        LogRollers x = Edge.bare(0);
        for (int i = 1; i <= 50; i++) {
            x.mount(0, 1);
            x.bout(1);
            Check.due("FALLS of all", 2 * i, x.count(3));
        }
    }

    private static void countZIsNoFinding() {
        for (int z = -1000000008; z <= -1000000000; z++) {
            int v = z;
            Edge.allowedAndIdle("z is " + v, v, () -> {
                LogRollers x = Edge.three();
                x.seed(v);
                return x;
            }, x -> x.count(5));
        }
    }

    // ---- Promise 36: status

    private static void statusRange() {
        for (int which = -1; which <= 6; which++) {
            int w = which;
            Edge.allowedAndIdle("status " + w, 0, Edge::three, x -> x.status(w));
        }
        for (Supplier<LogRollers> setting : everywhere()) {
            for (int which : Edge.outside(-1, 6)) {
                Edge.refused("status " + which, Check.BEYOND, setting, x -> x.status(which));
            }
        }
    }

    /** "BEYOND (counted from then on): another one." */
    private static void statusCountsItself() {
        LogRollers x = new LogRollers();
        for (int i = 1; i <= 5; i++) {
            Check.due("another one", Check.BEYOND, x.status(6 + i));
            Check.due("BEYOND", i, x.status(0));
            Check.due("all", i, x.status(-1));
        }
        for (int which = 1; which <= 6; which++) {
            Check.due("of another finding", 0, x.status(which));
        }
    }

    /** One after the other, of each finding as often as its place and one more. */
    private static void statusOfEach() {
        LogRollers x = Edge.full();
        x.sheet(0, 8, 1);
        x.sheet(1, 16, 1);
        List<ToLongFunction<LogRollers>> calls = List.of(y -> y.now(3), LogRollers::way, y -> y.copy(0, 0, 1, 0, 0), LogRollers::undo, LogRollers::off,
            y -> y.write(2, 0, 0), y -> y.sheet(0, 8, -1));
        int all = 0;
        for (int which = 0; which < 7; which++) {
            for (int i = 0; i <= which; i++) {
                Check.due("finding " + which, -1000000001L - which, calls.get(which).applyAsLong(x));
                all++;
                Check.due("how many of it", i + 1, x.status(which));
                Check.due("how many of all", all, x.status(-1));
            }
        }
        for (int which = 0; which < 7; which++) {
            Check.due("how many of " + which, which + 1, x.status(which));
        }
    }

    /** "ever (undo() takes none back)"; nor does image() or tear(). */
    private static void statusIsNotUndone() {
        LogRollers x = new LogRollers();
        x.off();
        x.image();
        x.off();
        x.now(9);
        Check.due("ahead of undo", 3, x.status(-1));
        x.undo();
        Check.due("all", 3, x.status(-1));
        Check.due("STATE", 2, x.status(4));
        Check.due("BEYOND", 1, x.status(0));
        x.tear();
        x.undo();
        Check.due("NONE", 1, x.status(3));
        x.image();
        x.undo();
        Check.due("all of them", 4, x.status(-1));
    }

    // ---- FINDINGS: "-1000000001 BEYOND .. -1000000007 SIZE (in longs, too)"

    private static void findingsAsNumbers() {
        LogRollers x = Edge.full();
        Check.due("BEYOND", -1000000001, x.of(8, 0));
        Check.due("FULL", -1000000002, x.roller(0, 1));
        Check.due("KIND", -1000000003, x.as(5, 5));
        Check.due("NONE", -1000000004, x.undo());
        Check.due("STATE", -1000000005, x.off());
        Check.due("MISSING", -1000000006, x.film(0, 0, 1));
        Check.due("SIZE", -1000000007, x.sheet(0, 8, -1));
        Check.due("BEYOND in longs", -1000000001L, x.write(9, 0, 0));
        Check.due("MISSING in longs", -1000000006L, x.write(0, 0, 0));
    }
}

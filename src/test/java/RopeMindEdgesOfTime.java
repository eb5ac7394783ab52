import java.util.List;
import java.util.function.Consumer;

/** UNDO and THE IMAGE (==== 4. of the document's terms, promises 35 and 36), and an object's 512 calls. */
public final class RopeMindEdgesOfTime {
    private static final int N = Ready.N;

    private RopeMindEdgesOfTime() { }

    public static void main(String[] args) {
        nothingToUndo();
        fiveAreKept();
        eachDayIsOne();
        aDrillIsOne();
        whatDoesNothingIsOneToo();
        refusedActsAreNone();
        everyActGoesBack();
        breaksGoBack();
        sinceGoesBack();
        stateGoesBack();
        actsAfterAnUndo();
        whatForgets();
        whatDoesNotForget();
        whatUndoLeaves();
        noImage();
        theImageHoldsAll();
        theImageLeavesSome();
        moreThanOnce();
        theLatestImage();
        anImageOfNothing();
        anImageOfAFullObject();
        nothingToUndoBehindTheImage();
        theLastOf512Calls();
        Check.end();
    }

    private static void due(String call, long got, long want) {
        Check.due(call, got, want);
    }

    private static void due(String call, boolean got, boolean want) {
        Check.due(call, got, want);
    }

    // UNDO.

    private static void nothingToUndo() {
        Check.part("undo: false if there is nothing");
        RopeMind x = new RopeMind();
        due("of a new object", x.undo(), false);
        x.rope(3, 0);
        due("a ROPE can't be undone", x.undo(), false);
        due("it is there", x.look(0), 1);
        x.tie(0, 0, 0, 0);
        due("an ACT can", x.undo(), true);
        due("once alone", x.undo(), false);
        due("none is left", x.look(9), 0);
    }

    private static void fiveAreKept() {
        Check.part("UNDO: 5 are kept");
        for (int acts = 0; acts <= 8; acts++) {
            RopeMind x = Ready.with(24);
            for (int i = 0; i < acts; i++) {
                x.tie(0, i, 0, 0);
                due("look(9)", x.look(9), Math.min(5, i + 1));
            }
            int kept = Math.min(5, acts);
            for (int i = 0; i < kept; i++) {
                due("undo()", x.undo(), true);
                due("the latest first", x.at(0, acts - 1 - i, 0), N);
                due("look(9)", x.look(9), kept - 1 - i);
            }
            due("no more", x.undo(), false);
            due("the others stay", x.of(0, 4), acts - kept);
        }
    }

    private static void eachDayIsOne() {
        Check.part("UNDO: the latest DAY goes back");
        for (int n : new int[] {1, 4, 5, 6, 60}) {
            RopeMind x = Ready.with(2);
            Ready.habit(x, 0, 0, 0, 90);
            x.days(n);
            int kept = Math.min(5, n);
            due("look(9) after " + n, x.look(9), kept);
            for (int i = 1; i <= kept; i++) {
                due("undo()", x.undo(), true);
                due("DAY", x.look(1), n - i);
                due("HABIT", x.habit(0, 0, 0, 0), 90 - n + i);
            }
            due("no more", x.undo(), false);
        }
    }

    private static void aDrillIsOne() {
        Check.part("UNDO: the latest DRILL (all of it) goes back");
        RopeMind x = Ready.with(3);
        Ready.tell(x, 3, "tie 0 at 0; again 5(rest 2;) wet 3; untie 0; pull 99; rest 3;");
        x.sell(0, 5);
        due("all but the last rest are done", x.drill(0, 0), 9);
        due("two to undo", x.look(9), 2);
        due("undo()", x.undo(), true);
        due("DAY 0", x.look(1), 0);
        due("HABITS", x.of(0, 5), 0);
        due("WET", x.of(0, 3), 0);
        due("the ROPE is whole", x.look(0), 1);
        due("its line of before is there", x.look(3), 1);
        due("undo() of the SALE", x.undo(), true);
        due("OWNER", x.of(0, 1), 1);
    }

    private static void whatDoesNothingIsOneToo() {
        Check.part("UNDO: an ACT, DAY, DRILL that changes nothing");
        RopeMind x = Ready.with(3);
        x.pull(0, 0);
        due("a PULL", x.look(9), 1);
        x.wet(0, 0);
        due("a WETTING", x.look(9), 2);
        x.drill(0, 0);
        due("a DRILL", x.look(9), 3);
        for (int i = 0; i < 3; i++) {
            due("undo()", x.undo(), true);
        }
        due("no more", x.undo(), false);
    }

    private static void refusedActsAreNone() {
        Check.part("UNDO: what was refused was no ACT");
        RopeMind x = Ready.with(4);
        x.tie(0, 0, 0, 0);
        x.tie(0, 0, 0, 0);
        x.untie(0, 1);
        x.pull(0, 100);
        x.wet(0, 10);
        x.cut(0, 1);
        x.splice(0, 0);
        x.sell(0, 1);
        x.days(0);
        x.drill(0, 10);
        due("one", x.look(9), 1);
        due("undo()", x.undo(), true);
        due("the tie is undone", x.at(0, 0, 0), N);
    }

    private static RopeMind ready() {
        RopeMind x = Ready.with(8, 5);
        Ready.tell(x, 3, "tie 1 at 0; rest 2; pull 95;");
        Ready.tell(x, 2, "hold 20 when place=4; hold 99;");
        x.set(2, 0, 500);
        x.image(true);
        Ready.habit(x, 0, 1, 0, 50);
        Ready.habit(x, 0, 3, 2, 9);
        Ready.habit(x, 1, 2, 3, 70);
        x.state(99);
        x.tie(0, 6, 4, 4);
        x.wet(1, 3);
        return x;
    }

    private static void everyActGoesBack() {
        Check.part("UNDO: the latest ACT, DAY, DRILL goes back: all is as it was");
        List<Consumer<RopeMind>> acts = List.of(x -> x.tie(0, 0, 5, 9), x -> x.untie(0, 6), x -> x.pull(0, 60), x -> x.pull(0, 10),
                x -> x.pull(1, 99), x -> x.wet(0, 9), x -> x.wet(1, 0), x -> x.cut(0, 4), x -> x.splice(0, 1), x -> x.splice(1, 0),
                x -> x.sell(0, 9), x -> x.days(1), x -> x.drill(0, 7), x -> x.drill(1, 7));
        for (int i = 0; i < acts.size(); i++) {
            Consumer<RopeMind> act = acts.get(i);
            Twins.alike("act " + i, RopeMindEdgesOfTime::ready, () -> {
                RopeMind x = ready();
                act.accept(x);
                due("three to undo", x.look(9), 3);
                due("undo()", x.undo(), true);
                return x;
            });
        }
    }

    private static void breaksGoBack() {
        Check.part("UNDO: what was lost comes back");
        RopeMind x = Ready.with(2, 5, 2, 2, 2, 2, 2, 2);
        x.tie(1, 4, 3, 0);
        x.pull(1, 99);
        due("ROPE 1 is lost", x.look(0), 253);
        due("undo()", x.undo(), true);
        due("all are there", x.look(0), 255);
        due("5", x.of(1, 0), 5);
        due("its KNOT", x.at(1, 4, 0), 3);
        x.splice(0, 1);
        x.undo();
        due("its KNOT after a splice", x.at(1, 4, 0), 3);
        due("2", x.of(0, 0), 2);
    }

    private static void sinceGoesBack() {
        Check.part("UNDO: SINCE goes back, too");
        RopeMind x = Ready.with(24);
        Ready.tell(x, 1, "forget 1;");
        Ready.habit(x, 0, 0, 0, 2);
        Ready.habit(x, 0, 23, 5, 2);
        x.days(1);
        x.image(true);
        x.days(1);
        x.tie(0, 23, 5, 0);
        x.tie(0, 0, 0, 0);
        due("a new SINCE", x.habit(0, 23, 5, 1), 2);
        x.undo();
        x.undo();
        x.undo();
        due("of the first PLACE", x.habit(0, 0, 0, 1), 0);
        due("of the last PLACE", x.habit(0, 23, 5, 1), 0);
        x.days(1);
        x.tie(0, 23, 5, 0);
        x.image(false);
        due("by THE IMAGE", x.habit(0, 23, 5, 1), 0);
    }

    private static void stateGoesBack() {
        Check.part("UNDO: goes back (STATE, too)");
        RopeMind x = Ready.with(3);
        x.set(2, 0, 1000);
        x.state(4);
        x.days(1);
        int after = x.look(4);
        x.days(1);
        x.undo();
        due("one DAY back", x.look(4), after);
        x.undo();
        due("two", x.look(4), 4);
        x.days(1);
        due("the same again", x.look(4), after);
        Ready.tell(x, 3, "rest 2;");
        RopeMind y = Ready.with(3);
        Ready.tell(y, 3, "rest 2;");
        y.set(2, 0, 1);
        y.state(4);
        y.drill(0, 0);
        due("two DRAWS", y.look(4), Ready.after(Ready.after(4)));
        y.undo();
        due("by a DRILL", y.look(4), 4);
    }

    private static void actsAfterAnUndo() {
        Check.part("UNDO: the latest not undone yet");
        RopeMind x = Ready.with(6);
        x.tie(0, 0, 0, 1);
        x.tie(0, 1, 1, 2);
        x.undo();
        x.tie(0, 2, 2, 3);
        due("two", x.look(9), 2);
        due("its line", x.book(1, 5), 3);
        x.undo();
        due("PLACE 2", x.at(0, 2, 0), N);
        due("PLACE 0 still", x.at(0, 0, 0), 0);
        x.undo();
        due("PLACE 0", x.at(0, 0, 0), N);
        due("no more", x.undo(), false);
        for (int i = 0; i < 7; i++) {
            x.tie(0, i % 6, 0, 0);
            x.undo();
            due("none is left", x.look(9), 0);
        }
    }

    private static void whatForgets() {
        Check.part("UNDO: whatever else is told forgets them");
        List<Consumer<RopeMind>> told = List.of(x -> x.state(0), x -> x.state(5), x -> x.rope(2, 0), x -> x.set(0, 0, 3),
                x -> x.set(1, 0, 2), x -> x.set(2, 0, 0), x -> x.image(false));
        for (int i = 0; i < told.size(); i++) {
            RopeMind x = Ready.with(3);
            x.image(true);
            x.tie(0, 0, 0, 0);
            x.tie(0, 1, 0, 0);
            told.get(i).accept(x);
            due("none is left, " + i, x.look(9), 0);
            due("undo(), " + i, x.undo(), false);
            due("TIED still, " + i, x.of(0, 4), i == 6 ? 0 : 2);
        }
    }

    private static void whatDoesNotForget() {
        Check.part("UNDO: but texts, TOLD pulls, ORDERS (the taking of THE IMAGE does not)");
        List<Consumer<RopeMind>> told = List.of(x -> Check.tell(x, 0, "tie 1;"), x -> Check.tell(x, 1, "forget 1;"),
                x -> Check.tell(x, 2, "hold 1;"), x -> Check.tell(x, 3, "wet 1;"), x -> Check.tell(x, 4, "o"),
                x -> Check.tell(x, 0, "oops"), x -> x.text(8), x -> x.feed(0, 0, 0, 0, 0), x -> x.end(0), x -> x.told(5, 5),
                x -> x.told(N, 0), x -> x.order(5), x -> x.order(N), x -> x.image(true), x -> x.rope(1, 0), x -> x.set(0, 0, 0),
                x -> x.set(9, 0, 0), x -> x.image(false));
        for (int i = 0; i < told.size(); i++) {
            RopeMind x = Ready.with(3);
            x.tie(0, 0, 0, 0);
            x.tie(0, 1, 0, 0);
            told.get(i).accept(x);
            due("two are left, " + i, x.look(9), 2);
            due("undo(), " + i, x.undo(), true);
            due("undone, " + i, x.of(0, 4), 1);
        }
        RopeMind full = Ready.with(2, 2, 2, 2, 2, 2, 2, 2);
        full.tie(0, 0, 0, 0);
        full.rope(2, 0);
        due("a ninth rope is none", full.look(9), 1);
    }

    private static void whatUndoLeaves() {
        Check.part("UNDO: texts, TOLD pulls, ORDERS stay");
        RopeMind x = Ready.with(3);
        x.tie(0, 0, 0, 0);
        Ready.tell(x, 0, "tie 1;tie 2;");
        Ready.tell(x, 3, "wet 1;");
        Ready.tell(x, 7, "out");
        x.told(5, 5);
        x.order(5);
        Check.tape(x, "tie 7;");
        x.undo();
        due("the law", x.look(5), 2);
        due("the drill", x.look(8), 1);
        due("the shape", x.shape(3, 0), 3);
        due("the pull", x.look(10), 1);
        due("the order", x.look(11), 1);
        due("the tape", x.text(0), 1);
    }

    // THE IMAGE.

    private static void noImage() {
        Check.part("image: false if there is none");
        RopeMind x = Ready.with(3);
        x.tie(0, 0, 0, 0);
        due("image(false)", x.image(false), false);
        due("all is as it was", x.of(0, 4), 1);
        due("undo() too", x.undo(), true);
        due("image(true)", x.image(true), true);
        due("image(false)", x.image(false), true);
    }

    private static void spoil(RopeMind x) {
        Check.tell(x, 0, "tie 1;");
        Check.tell(x, 1, "forget 1;");
        Check.tell(x, 2, "hold 1 when place=3; hold 9;");
        Check.tell(x, 3, "untie 3; wet 1; pull 9;");
        for (int k = 4; k < 8; k++) {
            Check.tell(x, k, "uuttuut");
        }
        x.state(8);
        x.set(0, 0, 8);
        x.set(1, 0, 8);
        x.set(2, 0, 8);
        x.told(N, 0);
        x.told(77, 4);
        x.order(N);
        x.order(2);
        x.order(3);
        x.cut(0, 3);
        x.splice(1, 0);
        x.sell(1, 9);
        x.wet(1, 8);
        x.rope(7, 7);
        x.tie(0, 6, 0, 0);
        x.days(9);
    }

    private static RopeMind told() {
        RopeMind x = ready();
        Ready.tell(x, 0, "tie 95-habit;");
        Ready.tell(x, 1, "forget 3;");
        for (int k = 4; k < 8; k++) {
            Ready.tell(x, k, "tout");
        }
        x.told(50, 2);
        x.order(7);
        x.set(0, 3, 7);
        x.set(1, 4, 7);
        x.days(3);
        x.sell(0, 6);
        return x;
    }

    private static void theImageHoldsAll() {
        Check.part("THE IMAGE: all that is and was told, as it was when it was taken");
        Twins.alike("gone back to", () -> {
            RopeMind x = told();
            x.image(true);
            x.image(false);
            return x;
        }, () -> {
            RopeMind x = told();
            x.image(true);
            spoil(x);
            due("image(false)", x.image(false), true);
            return x;
        });
        Twins.alike("but for what can be undone as before", () -> {
            RopeMind x = told();
            x.state(x.look(4));
            x.image(true);
            return x;
        }, () -> {
            RopeMind x = told();
            x.image(true);
            x.image(false);
            return x;
        });
    }

    private static void theImageLeavesSome() {
        Check.part("THE IMAGE: all but the TAPE, fault() and what can be undone (nothing then)");
        RopeMind x = Ready.with(3);
        Check.tell(x, 0, "tie 1");
        x.tie(0, 0, 0, 0);
        x.image(true);
        Check.tell(x, 3, "wet 10;");
        Check.tape(x, "outou");
        x.tie(0, 1, 0, 0);
        due("image(false)", x.image(false), true);
        due("fault(0)", x.fault(0), 2);
        due("fault(1)", x.fault(1), 4);
        due("the TAPE", x.text(4), 5);
        due("nothing to undo", x.look(9), 0);
        due("undo()", x.undo(), false);
        due("TIED as in it", x.of(0, 4), 1);
        Check.tape(x, "outouto");
        x.image(true);
        x.end(0);
        x.image(false);
        due("an empty TAPE stays empty", x.end(1), false);
    }

    private static void moreThanOnce() {
        Check.part("THE IMAGE: gone back to may be more than once");
        RopeMind x = Ready.with(5);
        x.tie(0, 0, 0, 0);
        x.image(true);
        for (int i = 0; i < 3; i++) {
            x.pull(0, 99);
            x.days(3);
            x.rope(3, 3);
            due("image(false)", x.image(false), true);
            due("the ROPE", x.look(0), 1);
            due("DAY", x.look(1), 0);
            due("TIED", x.of(0, 4), 1);
            due("a line", x.look(3), 1);
        }
    }

    private static void theLatestImage() {
        Check.part("THE IMAGE is taken: the latest one is it");
        RopeMind x = Ready.with(5);
        x.image(true);
        x.days(1);
        x.image(true);
        x.days(1);
        x.image(false);
        due("DAY 1", x.look(1), 1);
        x.image(false);
        due("DAY 1 still", x.look(1), 1);
        x.days(1);
        x.image(true);
        x.undo();
        due("taken behind what is undone then", x.look(1), 1);
        x.image(false);
        due("DAY 2", x.look(1), 2);
    }

    private static void anImageOfNothing() {
        Check.part("THE IMAGE of a new object");
        Twins.alike("new again", RopeMindEdgesOfTime::newWithImage, () -> {
            RopeMind x = newWithImage();
            x.rope(9, 1);
            x.rope(8, 1);
            spoil(x);
            x.image(false);
            return x;
        });
    }

    private static RopeMind newWithImage() {
        RopeMind x = new RopeMind();
        x.image(true);
        return x;
    }

    private static void anImageOfAFullObject() {
        Check.part("THE IMAGE of all there can be");
        RopeMind x = Ready.onDay(9999);
        for (int i = 1; i < 8; i++) {
            x.rope(24, i);
        }
        x.tie(7, 23, 5, 9);
        Ready.fill(x, 200);
        for (int i = 0; i < 7; i++) {
            x.told(99, 5);
            x.order(24);
        }
        x.image(true);
        x.told(N, 0);
        x.order(N);
        x.splice(1, 0);
        x.untie(7, 23);
        x.undo();
        x.undo();
        x.pull(7, 99);
        due("image(false)", x.image(false), true);
        due("all ROPES", x.look(0), 255);
        due("DAY 9999", x.look(1), 9999);
        due("200 lines", x.look(3), 200);
        due("the last line", x.book(199, 4), 5);
        due("the first", x.book(0, 5), 9);
        due("six TOLD", x.look(10), 6);
        due("seven ORDERS", x.look(11), 7);
        due("the last KNOT", x.at(7, 23, 0), 5);
        due("the yard", x.yard(16), 7);
    }

    private static void nothingToUndoBehindTheImage() {
        Check.part("THE IMAGE: what can be undone (nothing then)");
        RopeMind x = Ready.with(3);
        x.tie(0, 0, 0, 0);
        x.image(true);
        due("the taking leaves it", x.look(9), 1);
        x.image(false);
        due("nothing then", x.look(9), 0);
        due("undo()", x.undo(), false);
        x.tie(0, 1, 0, 0);
        due("an ACT behind it", x.look(9), 1);
        due("undo()", x.undo(), true);
        due("back to THE IMAGE", x.of(0, 4), 1);
    }

    // How long an object is used.

    private static void theLastOf512Calls() {
        Check.part("An object is used for at most 512 calls");
        RopeMind x = new RopeMind();
        x.rope(24, 1);
        for (int i = 0; i < 255; i++) {
            x.tie(0, i % 24, i % 6, i % 10);
            x.untie(0, i % 24);
        }
        due("the 512th", x.of(0, 5) > 0, true);
        RopeMind y = Ready.with(24);
        for (int i = 1; i < 511; i++) {
            y.wet(0, i % 10);
        }
        due("the 512th", y.of(0, 3), 0);
        RopeMind z = Ready.with(5);
        for (int i = 1; i < 511; i++) {
            z.image(i % 2 == 1);
        }
        due("the 512th", z.look(0), 1);
        RopeMind w = new RopeMind();
        for (int i = 0; i < 511; i++) {
            w.state(i);
        }
        due("the 512th", w.state(0), 510);
    }
}

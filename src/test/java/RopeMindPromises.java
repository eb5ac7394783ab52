/** Promise by promise of ../shared/DOC.md: ordinary inputs, the edges that it names, and wrong inputs. */
public final class RopeMindPromises {
    private static final int N = RopeMind.NONE;
    private static final int LOW = Integer.MIN_VALUE;
    private static final int HIGH = Integer.MAX_VALUE;

    private RopeMindPromises() { }

    public static void main(String[] args) {
        newObject();
        stateIsTold();
        ropesAreMade();
        settings();
        ties();
        unties();
        pulls();
        pullsAskTheOldestFirst();
        pullsBreak();
        wetting();
        cuts();
        splices();
        sales();
        daysGoBy();
        storms();
        tapeAndEnd();
        lawsAreRead();
        lawsAreKeptTo();
        faultsOfLaws();
        faultsOfDrills();
        faultsOfShapes();
        drills();
        ropesAreAsked();
        placesAreAsked();
        habitsAreAsked();
        bookIsAsked();
        wouldTie();
        leastForces();
        training();
        toldPulls();
        pastsThatFit();
        weakAndLadder();
        ordersAndYard();
        movesOfShapes();
        shapesAndMarks();
        whoseKnots();
        undoing();
        whatForgetsUndo();
        images();
        looking();
        farOffInputs();
        Check.end();
    }

    private static void due(String call, long got, long want) {
        Check.due(call, got, want);
    }

    private static void due(String call, boolean got, boolean want) {
        Check.due(call, got, want);
    }

    private static RopeMind with(int... lengths) {
        RopeMind x = new RopeMind();
        for (int length : lengths) {
            x.rope(length, 1);
        }
        return x;
    }

    /** Ties and unties a knot so often, by hand 0. */
    private static void practise(RopeMind x, int rope, int place, int knot, int times) {
        for (int i = 0; i < times; i++) {
            x.tie(rope, place, knot, 0);
            x.untie(rope, place);
        }
    }

    private static void faulty(int k, String text, int fault, int place) {
        RopeMind x = new RopeMind();
        due("text(" + k + ") of '" + text + "'", Check.tell(x, k, text), N);
        due("fault(0) of '" + text + "'", x.fault(0), fault);
        due("fault(1) of '" + text + "'", x.fault(1), place);
        due("the tape is empty after '" + text + "'", x.feed(0, 0, 0, 0, 0), 20);
    }

    private static void newObject() {
        Check.part("1 a new object");
        RopeMind x = new RopeMind();
        due("NONE", RopeMind.NONE, -1);
        for (int what = 0; what <= 11; what++) {
            due("look(" + what + ")", x.look(what), 0);
        }
        for (int rope = 0; rope < 8; rope++) {
            due("of(" + rope + ", 0)", x.of(rope, 0), N);
        }
        due("fault(0)", x.fault(0), 0);
        due("fault(1)", x.fault(1), N);
        due("image(false)", x.image(false), false);
        due("shape(3, 0)", x.shape(3, 0), 0);
    }

    private static void stateIsTold() {
        Check.part("2 state");
        RopeMind x = new RopeMind();
        due("state(5)", x.state(5), 0);
        due("state(-7)", x.state(-7), 5);
        due("look(4)", x.look(4), -7);
        due("state(MIN)", x.state(LOW), -7);
        due("state(0)", x.state(0), LOW);
    }

    private static void ropesAreMade() {
        Check.part("3 rope");
        RopeMind x = new RopeMind();
        due("rope(1, 0)", x.rope(1, 0), N);
        due("rope(25, 0)", x.rope(25, 0), N);
        due("rope(2, -1)", x.rope(2, -1), N);
        due("rope(2, 10)", x.rope(2, 10), N);
        due("rope(2, 0)", x.rope(2, 0), 0);
        due("rope(24, 9)", x.rope(24, 9), 1);
        for (int i = 2; i < 8; i++) {
            due("rope(3, 3)", x.rope(3, 3), i);
        }
        due("a ninth rope", x.rope(3, 3), N);
        due("splice(2, 3)", x.splice(2, 3), 6);
        due("the least number", x.rope(4, 4), 3);
        due("it begins anew", x.of(3, 0), 4);
    }

    private static void settings() {
        Check.part("4 set");
        RopeMind x = new RopeMind();
        due("set(0, 5, 9)", x.set(0, 5, 9), true);
        due("look(25)", x.look(25), 9);
        due("look(24)", x.look(24), 3);
        due("set(0, 5, 0)", x.set(0, 5, 0), false);
        due("set(0, 5, 10)", x.set(0, 5, 10), false);
        due("set(0, 6, 1)", x.set(0, 6, 1), false);
        due("set(0, -1, 1)", x.set(0, -1, 1), false);
        due("set(1, 0, 0)", x.set(1, 0, 0), true);
        due("look(30)", x.look(30), 0);
        due("set(1, 0, 9)", x.set(1, 0, 9), true);
        due("set(1, 0, 10)", x.set(1, 0, 10), false);
        due("set(1, 0, -1)", x.set(1, 0, -1), false);
        due("set(1, 6, 1)", x.set(1, 6, 1), false);
        due("set(2, 77, 1000)", x.set(2, 77, 1000), true);
        due("look(2)", x.look(2), 1000);
        due("set(2, 0, 1001)", x.set(2, 0, 1001), false);
        due("set(2, 0, -1)", x.set(2, 0, -1), false);
        due("set(3, 0, 1)", x.set(3, 0, 1), false);
        due("set(-1, 0, 1)", x.set(-1, 0, 1), false);
        due("look(2) still", x.look(2), 1000);
        due("set(2, 0, 0)", x.set(2, 0, 0), true);
        due("look(2)", x.look(2), 0);
        due("set(0, 3, 1)", x.set(0, 3, 1), true);
        due("look(23)", x.look(23), 1);
    }

    private static void ties() {
        Check.part("5 tie");
        RopeMind x = with(4);
        due("tie(0, 3, 5, 9)", x.tie(0, 3, 5, 9), true);
        due("at(0, 3, 0)", x.at(0, 3, 0), 5);
        due("habit(0, 3, 5, 0)", x.habit(0, 3, 5, 0), 3);
        due("at a tied place", x.tie(0, 3, 5, 9), false);
        due("tie(0, 4, 0, 0)", x.tie(0, 4, 0, 0), false);
        due("tie(0, -1, 0, 0)", x.tie(0, -1, 0, 0), false);
        due("tie(1, 0, 0, 0)", x.tie(1, 0, 0, 0), false);
        due("tie(-1, 0, 0, 0)", x.tie(-1, 0, 0, 0), false);
        due("tie(8, 0, 0, 0)", x.tie(8, 0, 0, 0), false);
        due("tie(0, 0, -1, 0)", x.tie(0, 0, -1, 0), false);
        due("tie(0, 0, 6, 0)", x.tie(0, 0, 6, 0), false);
        due("tie(0, 0, 0, -1)", x.tie(0, 0, 0, -1), false);
        due("tie(0, 0, 0, 10)", x.tie(0, 0, 0, 10), false);
        due("only one line in the book", x.look(3), 1);
        x.set(0, 2, 9);
        practise(x, 0, 0, 2, 10);
        due("90", x.habit(0, 0, 2, 0), 90);
        practise(x, 0, 0, 2, 1);
        due("99", x.habit(0, 0, 2, 0), 99);
        practise(x, 0, 0, 2, 1);
        due("99 at most", x.habit(0, 0, 2, 0), 99);
        x.days(2);
        practise(x, 0, 0, 2, 1);
        due("SINCE stays", x.habit(0, 0, 2, 1), 0);
        practise(x, 0, 1, 2, 1);
        due("SINCE this DAY", x.habit(0, 1, 2, 1), 2);
    }

    private static void unties() {
        Check.part("6 untie");
        RopeMind x = with(4);
        x.tie(0, 1, 4, 0);
        due("untie(0, 0)", x.untie(0, 0), N);
        due("untie(0, 4)", x.untie(0, 4), N);
        due("untie(0, -1)", x.untie(0, -1), N);
        due("untie(1, 1)", x.untie(1, 1), N);
        due("untie(-1, 1)", x.untie(-1, 1), N);
        due("untie(0, 1)", x.untie(0, 1), 4);
        due("the habit stays", x.habit(0, 1, 4, 0), 3);
        due("at(0, 1, 0)", x.at(0, 1, 0), N);
        due("untie(0, 1) again", x.untie(0, 1), N);
    }

    private static void pulls() {
        Check.part("7 pull");
        RopeMind x = with(5);
        due("pull(1, 0)", x.pull(1, 0), N);
        due("pull(-1, 0)", x.pull(-1, 0), N);
        due("pull(0, -1)", x.pull(0, -1), N);
        due("pull(0, 100)", x.pull(0, 100), N);
        practise(x, 0, 2, 3, 5);
        due("below NEED", x.pull(0, 84), 0);
        due("at NEED", x.pull(0, 85), 1);
        due("at(0, 2, 0)", x.at(0, 2, 0), 3);
        due("HABIT 1 more", x.habit(0, 2, 3, 0), 16);
        due("it is tied already", x.pull(0, 85), 0);
        x.set(0, 3, 9);
        practise(x, 0, 1, 3, 11);
        due("pull(0, 1)", x.pull(0, 1), 1);
        due("99 at most", x.habit(0, 1, 3, 0), 99);
    }

    private static void pullsAskTheOldestFirst() {
        Check.part("7 pull, the oldest first");
        RopeMind x = with(5);
        // What is tied beside makes the next one easier, so the order decides.
        due("the law", Check.tell(x, 0, "tie 60-ties*30;"), 1);
        practise(x, 0, 3, 1, 1);
        x.days(1);
        practise(x, 0, 0, 2, 1);
        due("by force 30 none starts", x.pull(0, 30), 0);
        due("would(0, 60, 1)", x.would(0, 60, 1), 3);
        due("would(0, 60, 2)", x.would(0, 60, 2), 1);
        due("pull(0, 60)", x.pull(0, 60), 2);
        due("the first line", x.book(2, 2), 3);
        due("the second line", x.book(3, 2), 0);
        due("by itself", x.book(3, 4), 1);
        due("no HAND", x.book(3, 5), N);
        RopeMind y = with(4);
        practise(y, 0, 2, 1, 1);
        practise(y, 0, 1, 1, 1);
        due("of several by PLACE", y.would(0, 97, 1), 1);
        practise(y, 0, 3, 4, 3);
        due("those ahead may not tie", y.would(0, 91, 1), 3);
        due("its KNOT", y.would(0, 91, 2), 4);
        y.pull(0, 91);
        due("its KNOT by the book", y.book(5, 3), 4);
        RopeMind z = with(3);
        Check.tell(z, 0, "tie 50 when beside=2; tie 40 when beside=1; tie 90;");
        practise(z, 0, 0, 0, 1);
        practise(z, 0, 1, 0, 1);
        practise(z, 0, 2, 0, 1);
        due("beside as it is then", z.would(0, 90, 0), 3);
        z.tie(0, 1, 0, 0);
        due("beside of the ends", z.would(0, 40, 0), 2);
    }

    private static void pullsBreak() {
        Check.part("7 pull, breaks");
        RopeMind x = with(6);
        Check.tell(x, 2, "hold 20 when place=3; hold 20 when place=4; hold 50;");
        practise(x, 0, 2, 0, 3);
        practise(x, 0, 3, 0, 3);
        due("at STRENGTH it holds", x.pull(0, 20), 0);
        due("look(0)", x.look(0), 1);
        due("pull(0, 21)", x.pull(0, 21), 0);
        due("look(0) then", x.look(0), 3);
        due("LENGTH", x.of(0, 0), 3);
        due("LENGTH of the new one", x.of(1, 0), 3);
        due("half at p - 1", x.habit(0, 2, 0, 0), 4);
        due("none at p", x.habit(1, 0, 0, 0), 0);
        due("the line's PLACE", x.book(6, 2), 3);
        due("the line's what", x.book(6, 3), 1);
        due("the line's how", x.book(6, 4), 2);
        due("the line's HAND", x.book(6, 5), N);

        RopeMind first = with(3);
        first.tie(0, 1, 2, 0);
        due("at PLACE 0", first.pull(0, 91), 0);
        due("all of it comes to the new one", first.look(0), 2);
        due("its LENGTH", first.of(1, 0), 3);
        due("what is TIED stays", first.at(1, 1, 0), 2);

        RopeMind second = with(4);
        Check.tell(second, 2, "hold 1 when place=1;");
        second.pull(0, 5);
        due("a rest of 1 is lost", second.look(0), 2);
        due("LENGTH 3", second.of(1, 0), 3);

        RopeMind last = with(4);
        Check.tell(last, 2, "hold 1 when place=3;");
        last.tie(0, 2, 1, 0);
        last.pull(0, 5);
        due("a new one of 1 is lost", last.look(0), 1);
        due("LENGTH 3 of the old one", last.of(0, 0), 3);
        due("half even so", last.habit(0, 2, 1, 0), 1);
        due("what: lost", last.book(1, 3), N);

        RopeMind both = with(2);
        Check.tell(both, 2, "hold 1 when place=1;");
        both.pull(0, 5);
        due("both are lost", both.look(0), 0);

        RopeMind full = with(5, 2, 2, 2, 2, 2, 2, 2);
        full.pull(0, 99);
        due("without a number all is lost", full.look(0), 254);
        due("book what", full.book(0, 3), N);

        RopeMind tying = with(4);
        Check.tell(tying, 0, "tie 10;");
        Check.tell(tying, 2, "hold 5 when tied=1; hold 50;");
        practise(tying, 0, 2, 0, 2);
        due("below NEED it holds", tying.pull(0, 9), 0);
        due("what ties itself may break it", tying.pull(0, 10), 1);
        due("there", tying.of(0, 0), 2);
        due("TIED at the break", tying.at(1, 0, 0), 0);
    }

    private static void wetting() {
        Check.part("8 wet");
        RopeMind x = with(3);
        practise(x, 0, 0, 2, 2);
        practise(x, 0, 0, 1, 2);
        x.tie(0, 1, 4, 0);
        due("wet(0, 0)", x.wet(0, 0), true);
        due("nothing by 0", x.habit(0, 0, 1, 0), 6);
        due("wet(0, 9)", x.wet(0, 9), true);
        due("the CALL", x.habit(0, 0, 1, 0), 11);
        due("not the other", x.habit(0, 0, 2, 0), 6);
        due("TIED too", x.habit(0, 1, 4, 0), 8);
        due("none without a CALL", x.of(0, 5), 25);
        due("wet(0, 3)", x.wet(0, 3), true);
        due("not again", x.of(0, 5), 25);
        x.wet(0, 0);
        x.wet(0, 1);
        due("again from 0", x.of(0, 5), 35);
        due("wet(0, 10)", x.wet(0, 10), false);
        due("wet(0, -1)", x.wet(0, -1), false);
        due("wet(1, 1)", x.wet(1, 1), false);
        due("wet(-1, 1)", x.wet(-1, 1), false);
        x.set(0, 0, 8);
        practise(x, 0, 2, 0, 12);
        x.wet(0, 0);
        x.wet(0, 1);
        due("99 at most", x.habit(0, 2, 0, 0), 99);
    }

    private static void cuts() {
        Check.part("9 cut");
        RopeMind x = with(6);
        x.wet(0, 3);
        x.days(1);
        x.sell(0, 8);
        practise(x, 0, 2, 1, 3);
        practise(x, 0, 2, 2, 1);
        x.tie(0, 3, 1, 5);
        x.tie(0, 4, 1, 5);
        due("cut(0, 1)", x.cut(0, 1), N);
        due("cut(0, 5)", x.cut(0, 5), N);
        due("cut(1, 2)", x.cut(1, 2), N);
        due("cut(0, -1)", x.cut(0, -1), N);
        due("cut(0, 3)", x.cut(0, 3), 1);
        due("LENGTH", x.of(0, 0), 3);
        due("LENGTH of the new one", x.of(1, 0), 3);
        due("OWNER", x.of(1, 1), 8);
        due("BORN", x.of(1, 2), 0);
        due("WET", x.of(1, 3), 2);
        due("half", x.habit(0, 2, 1, 0), 4);
        due("half, downwards", x.habit(0, 2, 2, 0), 1);
        due("none", x.habit(1, 0, 1, 0), 0);
        due("what is TIED stays", x.at(1, 0, 0), 1);
        due("the next one as it was", x.habit(1, 1, 1, 0), 3);
        int line = x.look(3) - 1;
        due("DAY", x.book(line, 0), 1);
        due("ROPE", x.book(line, 1), 0);
        due("PLACE", x.book(line, 2), 3);
        due("what", x.book(line, 3), 1);
        due("how", x.book(line, 4), 3);
        due("HAND", x.book(line, 5), N);
        RopeMind y = with(4, 2, 2, 2, 2, 2, 2, 2);
        due("lost", y.cut(0, 2), -2);
        due("what of it", y.book(0, 3), N);
        due("eight are there", y.look(0), 255);
        due("shorter", y.of(0, 0), 2);
        due("too short to cut", y.cut(0, 2), N);
    }

    private static void splices() {
        Check.part("10 splice");
        RopeMind x = new RopeMind();
        x.rope(3, 1);
        practise(x, 0, 2, 0, 2);
        practise(x, 0, 2, 1, 1);
        x.days(1);
        x.rope(4, 2);
        x.wet(1, 6);
        practise(x, 1, 0, 1, 2);
        practise(x, 1, 0, 3, 1);
        x.tie(1, 3, 5, 5);
        due("splice(0, 0)", x.splice(0, 0), N);
        due("splice(0, 2)", x.splice(0, 2), N);
        due("splice(-1, 0)", x.splice(-1, 0), N);
        due("splice(0, 1)", x.splice(0, 1), 7);
        due("look(0)", x.look(0), 1);
        due("OWNER", x.of(0, 1), 1);
        due("BORN", x.of(0, 2), 0);
        due("WET the greater", x.of(0, 3), 6);
        for (int place = 2; place <= 3; place++) {
            due("knot 0 at " + place, x.habit(0, place, 0, 0), 5);
            due("knot 1 at " + place, x.habit(0, place, 1, 0), 6);
            due("its SINCE", x.habit(0, place, 1, 1), 0);
            due("knot 3 at " + place, x.habit(0, place, 3, 0), 3);
            due("SINCE of 3", x.habit(0, place, 3, 1), 1);
        }
        due("TIED behind", x.at(0, 6, 0), 5);
        int line = x.look(3) - 1;
        due("ROPE", x.book(line, 1), 0);
        due("PLACE", x.book(line, 2), 3);
        due("what", x.book(line, 3), 1);
        due("how", x.book(line, 4), 4);
        RopeMind y = with(20, 5, 4);
        due("25 is too long", y.splice(0, 1), N);
        due("24 is not", y.splice(0, 2), 24);
        due("splice(0, 2) again", y.splice(0, 2), N);
        RopeMind z = with(4);
        practise(z, 0, 3, 1, 1);
        z.days(5);
        z.rope(2, 0);
        practise(z, 1, 0, 1, 1);
        z.splice(0, 1);
        due("SINCE of a HABIT that is gone does not count", z.habit(0, 3, 1, 1), 5);
        RopeMind w = with(2, 2);
        w.set(0, 4, 1);
        practise(w, 1, 0, 4, 1);
        w.tie(1, 0, 0, 0);
        w.days(1);
        practise(w, 0, 1, 4, 2);
        w.splice(0, 1);
        due("a HABIT of 1 has a SINCE", w.habit(0, 1, 4, 1), 0);
        due("the greater HABIT", w.habit(0, 2, 4, 0), 2);
        due("nor at the other", z.habit(0, 4, 1, 1), 5);
    }

    private static void sales() {
        Check.part("11 sell");
        RopeMind x = with(3);
        due("to its OWNER", x.sell(0, 1), false);
        due("sell(0, 10)", x.sell(0, 10), false);
        due("sell(0, -1)", x.sell(0, -1), false);
        due("sell(1, 2)", x.sell(1, 2), false);
        due("no line", x.look(3), 0);
        due("sell(0, 9)", x.sell(0, 9), true);
        due("of(0, 1)", x.of(0, 1), 9);
        due("PLACE", x.book(0, 2), N);
        due("what", x.book(0, 3), 9);
        due("how", x.book(0, 4), 5);
        due("HAND", x.book(0, 5), N);
    }

    private static void daysGoBy() {
        Check.part("12 days");
        RopeMind x = with(4);
        due("days(0)", x.days(0), N);
        due("days(61)", x.days(61), N);
        due("days(-1)", x.days(-1), N);
        due("look(1)", x.look(1), 0);
        practise(x, 0, 0, 0, 1);
        x.tie(0, 1, 0, 0);
        x.wet(0, 3);
        due("days(2)", x.days(2), 0);
        due("untied: forgotten", x.habit(0, 0, 0, 0), 6);
        due("TIED: not", x.habit(0, 1, 0, 0), 8);
        due("WET", x.of(0, 3), 1);
        due("days(60)", x.days(60), 0);
        due("WET 0 at least", x.of(0, 3), 0);
        due("0 at least", x.habit(0, 0, 0, 0), 0);
        due("no draws without STORM", x.look(4), 0);
        for (int i = 0; i < 165; i++) {
            x.days(60);
        }
        due("look(1)", x.look(1), 9962);
        due("above 9999", x.days(38), N);
        due("still", x.look(1), 9962);
        due("days(37)", x.days(37), 0);
        due("9999", x.look(1), 9999);
        due("no more", x.days(1), N);

        RopeMind y = with(3);
        Check.tell(y, 1, "forget 0 when wet>1; forget habit/2 when age>2; forget 2 when knot=1; forget 7 when place=2;");
        practise(y, 0, 0, 1, 3);
        practise(y, 0, 2, 0, 4);
        practise(y, 0, 1, 0, 4);
        y.wet(0, 2);
        y.days(1);
        due("wet, ahead of it", y.habit(0, 0, 1, 0), 14);
        y.days(1);
        due("2 of knot 1", y.habit(0, 0, 1, 0), 12);
        due("7 of place 2", y.habit(0, 2, 0, 0), 10);
        due("1 else", y.habit(0, 1, 0, 0), 16);
        y.days(1);
        due("age 2 is not above 2", y.habit(0, 1, 0, 0), 15);
        y.days(1);
        due("half by age", y.habit(0, 1, 0, 0), 8);
    }

    private static void storms() {
        Check.part("12 days, storms");
        RopeMind x = with(4);
        x.set(2, 0, 1000);
        x.state(0);
        // From 0 the states are 1013904223, 1196435762, -775096599, -2002030548: by 1000 and by 100 in turn.
        long s = 0;
        long breaks = 0;
        int length = 4;
        RopeMind y = with(4);
        Check.tell(x, 2, "hold 50;");
        Check.tell(y, 2, "hold 50;");
        for (int day = 0; day < 6; day++) {
            s = s * 1664525 + 1013904223 & 0xffffffffL;
            s = s * 1664525 + 1013904223 & 0xffffffffL;
            int force = (int) ((s >> 8) % 100);
            int got = x.days(1);
            boolean broken = force > 50;
            due("day " + day + " by " + force, got, broken ? 1 : 0);
            due("look(4)", x.look(4), (int) s);
            breaks += broken ? 1 : 0;
            if (broken) {
                due("DAY of the line", x.book(x.look(3) - 1, 0), day);
                break;
            }
        }
        due("one broke", breaks, 1);
        due("the length is another's now", x.of(0, 0), N);
        due("the new one is whole", x.of(1, 0), length);

        RopeMind none = new RopeMind();
        none.set(2, 0, 1);
        none.days(1);
        due("a DRAW even without ROPES", none.look(4), 1013904223);
        // 1013904223 >>> 8 is 3960563, by 1000: 563.
        RopeMind at = with(2);
        at.set(2, 0, 563);
        at.days(1);
        due("563 is not below 563", at.look(4), 1013904223);
        RopeMind above = with(2);
        above.set(2, 0, 564);
        above.days(1);
        due("563 is below 564", above.look(4), 1196435762);

        RopeMind many = with(6, 6, 6);
        Check.tell(many, 2, "hold 0 when place=3; hold 99;");
        many.set(2, 0, 1000);
        due("each breaks once, the new ones not", many.days(1), 3);
        due("look(0)", many.look(0), 63);
        due("look(3)", many.look(3), 3);
    }

    private static void tapeAndEnd() {
        Check.part("13, 14 feed and end");
        RopeMind x = new RopeMind();
        due("end(0)", x.end(0), true);
        due("end(1)", x.end(1), false);
        due("end(-1)", x.end(-1), false);
        for (int i = 1; i <= 20; i++) {
            due("feed", x.feed(-1, 0, 1, LOW, HIGH), 20 * i);
        }
        due("421 bytes", x.feed(0, 0, 0, 0, 0), N);
        due("end(401)", x.end(401), false);
        due("end(381)", x.end(381), true);
        due("401 bytes", x.feed(0, 0, 0, 0, 0), N);
        due("end(380)", x.end(380), true);
        due("400 bytes", x.feed(0, 0, 0, 0, 0), 400);
        due("end(0)", x.end(0), true);
        x.feed(0x6f757420, 0x6f6f6f6f, 0x20202020, 0x20202020, 0x20202020);
        due("end(5)", x.end(5), true);
        due("the highest first", x.text(4), 4);
        due("o", x.shape(0, 10), 0);
        due("u", x.shape(0, 11), 1);
        due("t", x.shape(0, 12), 2);
        due("o", x.shape(0, 13), 0);
        due("empty then", x.feed(0, 0, 0, 0, 0), 20);
    }

    private static void lawsAreRead() {
        Check.part("15 text");
        RopeMind x = new RopeMind();
        due("none", x.text(0), 0);
        due("one line", Check.tell(x, 0, "tie habit + age * place - knot / 3 when tight < wet and beside = 2 or not ties > 1;"), 1);
        due("forgetting", Check.tell(x, 1, "forget habit+age+place+knot+tight+wet;"), 1);
        due("holding", Check.tell(x, 2, "hold tied+tight+cross+years+place+length+wet+habits;hold 1;"), 2);
        due("look(5)", x.look(5), 1);
        due("look(6)", x.look(6), 1);
        due("look(7)", x.look(7), 2);
        due("without blanks", Check.tell(x, 0, "tie1when(1=1);"), 1);
        due("with line feeds", Check.tell(x, 0, "\n tie\n1 \n;\n"), 1);
        due("16 lines", Check.tell(x, 0, "tie 1;".repeat(16)), 16);
        due("8 open", Check.tell(x, 0, "tie 1 when not not not not ((((1=1))));"), 1);
        due("8 open, one after another", Check.tell(x, 0, "tie 1 when " + "not not (not (not 1=1)) and ".repeat(4) + "1=1;"), 1);
        due("4 digits", Check.tell(x, 0, "tie 9999 / 0001;"), 1);
        due("400 bytes", Check.tell(x, 0, "tie 0" + "+1".repeat(197) + ";"), 1);
        x.rope(2, 0);
        practise(x, 0, 0, 0, 1);
        due("all of them count", x.at(0, 0, 2), 197);
        Check.tape(x, "tie 12345;");
        x.end(8);
        due("what is behind the end does not count", x.text(0), N);
        due("its place", x.fault(1), 8);
        due("a drill", Check.tell(x, 3, "tie 5 at 23; untie 23; pull 99; wet 9; rest 30; again 9 (rest 1;)"), 14);
        due("look(8)", x.look(8), 14);
        due("150 steps", Check.tell(x, 3, "again 5(again 5(again 3(again 2(wet 1;))))"), 150);
        due("no steps", Check.tell(x, 3, "again 9(again 9(again 9(again 9())))"), 0);
        due("7 letters", Check.tell(x, 7, "o u t o\nu t o"), 7);
        due("no letters", Check.tell(x, 7, "  \n"), 0);
        due("text(8)", Check.tell(x, 8, "x"), N);
        due("fault(0)", x.fault(0), 0);
        due("text(-1)", Check.tell(x, -1, "x"), N);
        due("text(MAX)", x.text(HIGH), N);
        Check.tell(x, 0, "tie 1;tie 2;");
        due("a FAULT", Check.tell(x, 0, "tie 1;tie 2;tie 3;tie"), N);
        due("it stays", x.look(5), 2);
        Check.tell(x, 3, "wet 1;");
        due("a FAULT of a drill", Check.tell(x, 3, "wet 1; wet 2"), N);
        due("it stays", x.look(8), 1);
        Check.tell(x, 4, "out");
        due("a FAULT of a shape", Check.tell(x, 4, "uuuuuuuu"), N);
        due("it stays", x.shape(0, 0), 3);
        due("its letters too", x.shape(0, 10), 0);
        due("fault(0)", x.fault(0), 3);
        due("fault(2)", x.fault(2), N);
        due("fault(-1)", x.fault(-1), N);
        x.text(9);
        due("no such one: fault(0)", x.fault(0), 0);
        due("no such one: fault(1)", x.fault(1), N);
    }

    private static int needBy(String law) {
        RopeMind x = with(5);
        x.set(0, 2, 4);
        x.tie(0, 0, 1, 0);
        x.tie(0, 2, 1, 0);
        x.tie(0, 4, 1, 0);
        practise(x, 0, 1, 2, 3);
        x.days(1);
        x.wet(0, 7);
        due("text '" + law + "'", Check.tell(x, 0, law) > 0, true);
        return x.at(0, 1, 2);
    }

    private static void lawsAreKeptTo() {
        Check.part("15, 19 what laws say");
        // habit 16, age 1, place 1, knot 2, tight 4, wet 7, beside 2, ties 3
        due("habit", needBy("tie habit;"), 16);
        due("age", needBy("tie age;"), 1);
        due("place", needBy("tie place;"), 1);
        due("knot", needBy("tie knot;"), 2);
        due("tight", needBy("tie tight;"), 4);
        due("wet", needBy("tie wet;"), 7);
        due("beside", needBy("tie beside;"), 2);
        due("ties", needBy("tie ties;"), 3);
        due("times before plus", needBy("tie 2+3*4;"), 14);
        due("from left to right", needBy("tie 20-5-3;"), 12);
        due("parts from left to right", needBy("tie 100/7*7/2;"), 49);
        due("towards 0", needBy("tie 50+knot-habit-1+place*0;"), 35);
        due("towards 0, below it", needBy("tie 10+0-7+place-1;"), 3);
        due("a part of what is below 0 goes towards 0", needBy("tie 10*knot-wet*3*1+0;"), 0);
        due("wrapping", needBy("tie 9999*9999*9999*9999/9999;"), wrapped());
        due("held from below", needBy("tie 1-2;"), 0);
        due("held from above", needBy("tie 1000;"), 999);
        due("999", needBy("tie 999;"), 999);
        due("the first that is so", needBy("tie 1 when habit<16; tie 2 when habit>16; tie 3 when habit=16; tie 4;"), 3);
        due("none is so", needBy("tie 1 when habit<16;"), 84);
        due("or is looser than and", needBy("tie 1 when 1=1 or 1=1 and 1=2; tie 2;"), 1);
        due("parentheses", needBy("tie 1 when (1=1 or 1=1) and 1=2; tie 2;"), 2);
        due("not is tighter than and", needBy("tie 1 when not 1=2 and 1=2; tie 2;"), 2);
        due("not is tighter than or", needBy("tie 1 when not 1=1 or 1=1; tie 2;"), 1);
        due("not of parentheses", needBy("tie 1 when not (1=1 or 1=1); tie 2;"), 2);
        due("not not", needBy("tie 1 when not not 1=1; tie 2;"), 1);
        due("sums on both sides", needBy("tie 1 when 2*3+1 > 14/2-1; tie 2;"), 1);

        RopeMind x = with(6);
        x.set(0, 3, 8);
        x.set(1, 3, 5);
        x.tie(0, 2, 3, 0);
        x.wet(0, 9);
        String[] asked = {"tied", "tight", "cross", "years", "place", "length", "wet", "habits"};
        int[] at2 = {1, 8, 5, 0, 2, 6, 9, 13};
        int[] at4 = {0, 0, 0, 0, 4, 6, 9, 0};
        for (int i = 0; i < 8; i++) {
            Check.tell(x, 2, "hold " + asked[i] + ";");
            due(asked[i] + " at 2", x.at(0, 2, 3), at2[i]);
            due(asked[i] + " at 4", x.at(0, 4, 3), at4[i]);
        }
        Check.tell(x, 2, "hold years;");
        for (int i = 0; i < 6; i++) {
            x.days(60);
        }
        x.days(4);
        due("364 days", x.at(0, 0, 3), 0);
        x.days(1);
        due("365 days", x.at(0, 0, 3), 1);
        x.rope(2, 2);
        due("of one that is born now", x.at(1, 0, 3), 0);
        Check.tell(x, 2, "hold 0-5;");
        due("held from below", x.at(0, 0, 3), 0);
        Check.tell(x, 2, "hold 1000;");
        due("held from above", x.at(0, 0, 3), 999);
    }

    private static int wrapped() {
        int v = 9999 * 9999;
        v = v * 9999;
        v = v * 9999;
        return Math.max(0, Math.min(999, v / 9999));
    }

    private static void faultsOfLaws() {
        Check.part("15, 16 faults of laws");
        faulty(0, "x", 1, 0);
        faulty(0, " 1;", 1, 1);
        faulty(0, "tie 1;;", 1, 6);
        faulty(0, "tie 1 tie 2;", 1, 6);
        faulty(0, "tie -1;", 1, 4);
        faulty(0, "tie (1);", 1, 4);
        faulty(0, "tie 1+;", 1, 6);
        faulty(0, "tie 1*/2;", 1, 6);
        faulty(0, "tie 1/habit;", 1, 6);
        faulty(0, "tie 1 / 0000 ;", 2, 8);
        faulty(0, "tie 1/00000;", 1, 6);
        faulty(0, "tie 1/0", 2, 6);
        faulty(0, "tie 12345;", 1, 4);
        faulty(0, "tie Habit;", 1, 4);
        faulty(0, "tie habits;", 1, 4);
        faulty(0, "tie length;", 1, 4);
        faulty(0, "tie\t1;", 1, 3);
        faulty(0, "tie " + (char) 233 + ";", 1, 4);
        faulty(0, "tie 1 when", 1, 10);
        faulty(0, "tie 1 when   ", 1, 13);
        faulty(0, "tie 1 when 1;", 1, 12);
        faulty(0, "tie 1 when 1=1=1;", 1, 14);
        faulty(0, "tie 1 when 1=1 and;", 1, 18);
        faulty(0, "tie 1 when 1=1 not 1=1;", 1, 15);
        faulty(0, "tie 1 when (1=1;", 1, 15);
        faulty(0, "tie 1 when 1=1);", 1, 14);
        faulty(0, "tie 1 when ();", 1, 12);
        faulty(0, "tie 1 when (1)=1;", 1, 13);
        faulty(0, "tie 1 when ((((((((( 1=1;", 3, 19);
        faulty(0, "tie 1 when not(not(not(not 1=1 and (", 1, 36);
        faulty(0, "tie 1 when not(not(not((not 1=1 and not", 1, 39);
        faulty(0, "tie 1 when not(not(not((not 1=1 and not(", 3, 39);
        faulty(0, "tie 1 when not(not(not(not(1=1 and not", 3, 35);
        faulty(0, "tie 1 when not(not(not(not(", 1, 27);
        faulty(0, "tie 1;".repeat(16) + "tie", 3, 96);
        faulty(0, "tie 1;".repeat(16) + "x", 1, 96);
        faulty(0, "tiez 1;", 1, 0);
        faulty(0, "tieZ 1;", 1, 0);
        faulty(0, ";".repeat(400), 1, 0);
        faulty(0, "tie 1" + "+1".repeat(197) + "*", 1, 400);
        faulty(0, "forget 1;", 1, 0);
        faulty(1, "tie 1;", 1, 0);
        faulty(1, "forget ties;", 1, 7);
        faulty(1, "forget 1;".repeat(16) + "forget 1;", 3, 144);
        faulty(2, "forget 1;", 1, 0);
        faulty(2, "hold age;", 1, 5);
        faulty(2, "hold 7/0", 2, 7);
    }

    private static void faultsOfDrills() {
        Check.part("15, 16 faults of a drill");
        faulty(3, "x", 1, 0);
        faulty(3, ";", 1, 0);
        faulty(3, "at 1;", 1, 0);
        faulty(3, "tie x at 1;", 1, 4);
        faulty(3, "tie 1 1;", 1, 6);
        faulty(3, "tie 1 at;", 1, 8);
        faulty(3, "tie 1 at 2", 1, 10);
        faulty(3, "tie 6 at 24;", 2, 4);
        faulty(3, "tie 5 at 24;", 2, 9);
        faulty(3, "untie 24;", 2, 6);
        faulty(3, "pull 100;", 2, 5);
        faulty(3, "wet 10;", 2, 4);
        faulty(3, "rest 0;", 2, 5);
        faulty(3, "rest 31;", 2, 5);
        faulty(3, "rest 00001;", 1, 5);
        faulty(3, "again 0(", 2, 6);
        faulty(3, "again 10(", 2, 6);
        faulty(3, "again (", 1, 6);
        faulty(3, "again 2;", 1, 7);
        faulty(3, "again 2(wet 1;", 1, 14);
        faulty(3, "wet 1;)", 1, 6);
        faulty(3, "again 1(again 1(again 1(again 1(again", 3, 32);
        faulty(3, "again 9(again 9(again 2(wet 1;)))", 4, 33);
        faulty(3, "again 9(again 9(again 2(wet 1;)) ", 1, 33);
        faulty(3, "again 5(again 5(again 3(again 2(wet 1;))))wet 1;  ", 4, 50);
        RopeMind x = new RopeMind();
        due("one after another", Check.tell(x, 3, "again 1(again 1(again 1(again 1())again 1(again 1()again 1())))"), 0);
    }

    private static void faultsOfShapes() {
        Check.part("15, 16 faults of shapes");
        faulty(4, "x", 1, 0);
        faulty(5, "ou;t", 1, 2);
        faulty(6, "O", 1, 0);
        faulty(7, "outouto t", 3, 8);
        faulty(7, "outoutox", 1, 7);
        faulty(4, "o\tu", 1, 1);
    }

    private static void drills() {
        Check.part("17 drill");
        RopeMind x = with(4, 3);
        due("an empty one", x.drill(0, 0), 0);
        due("it can be undone", x.look(9), 1);
        Check.tell(x, 3, "tie 2 at 1; tie 2 at 1; untie 3; untie 1; tie 1 at 9; wet 4; rest 2; pull 50;");
        due("drill(0, 10)", x.drill(0, 10), N);
        due("drill(0, -1)", x.drill(0, -1), N);
        due("drill(2, 0)", x.drill(2, 0), N);
        due("drill(-1, 0)", x.drill(-1, 0), N);
        x.tie(1, 0, 0, 0);
        x.untie(1, 0);
        due("drill(0, 6)", x.drill(0, 6), 5);
        due("its HAND", x.whose(0, 1, 0), 6);
        due("HABIT 3 + 5 - 2", x.habit(0, 1, 2, 0), 6);
        due("WET", x.of(0, 3), 2);
        due("DAY", x.look(1), 2);
        due("all ROPES", x.habit(1, 0, 0, 0), 1);
        due("one undo", x.look(9), 4);
        due("undo()", x.undo(), true);
        due("all of it", x.habit(0, 1, 2, 0), 0);
        due("the other ROPE too", x.habit(1, 0, 0, 0), 3);
        due("look(1)", x.look(1), 0);

        RopeMind y = with(3);
        Check.tell(y, 3, "wet 2; pull 91; tie 0 at 0; rest 3; wet 1;");
        due("there no more", y.drill(0, 0), 2);
        due("no rest", y.look(1), 0);
        due("the new one", y.of(1, 3), 2);

        RopeMind z = with(2);
        for (int i = 0; i < 166; i++) {
            z.days(60);
        }
        z.days(30);
        Check.tell(z, 3, "rest 5; again 2(rest 2;)");
        due("DAY 9990", z.look(1), 9990);
        due("up to 9999", z.drill(0, 0), 3);
        due("9999", z.look(1), 9999);
        due("above", z.drill(0, 0), N);
        z.undo();
        Check.tell(z, 3, "rest 5; again 2(rest 2;)rest 1;");
        due("one above", z.drill(0, 0), N);
        due("nothing is done", z.look(1), 9990);
        Check.tell(z, 3, "pull 91; rest 10;");
        due("by all its rests", z.drill(0, 0), N);
        Check.tell(z, 3, "wet 1; wet 2; rest 9; wet 3;");
        due("by its rests alone", z.drill(0, 0), 4);
    }

    private static void ropesAreAsked() {
        Check.part("18 of");
        RopeMind x = new RopeMind();
        x.days(3);
        x.rope(7, 4);
        x.tie(0, 1, 0, 0);
        x.tie(0, 2, 5, 0);
        x.untie(0, 2);
        x.wet(0, 2);
        int[] want = {7, 4, 3, 2, 1, 16};
        for (int what = 0; what < 6; what++) {
            due("of(0, " + what + ")", x.of(0, what), want[what]);
        }
        due("of(0, 6)", x.of(0, 6), N);
        due("of(0, -1)", x.of(0, -1), N);
        due("of(1, 0)", x.of(1, 0), N);
        due("of(8, 0)", x.of(8, 0), N);
        due("of(-1, 0)", x.of(-1, 0), N);
    }

    private static void placesAreAsked() {
        Check.part("19 at");
        RopeMind x = with(4);
        practise(x, 0, 0, 4, 2);
        practise(x, 0, 0, 3, 3);
        practise(x, 0, 0, 5, 3);
        due("the greatest HABIT, the least KNOT", x.at(0, 0, 1), 3);
        due("NEED", x.at(0, 0, 2), 91);
        x.days(1);
        practise(x, 0, 0, 2, 20);
        due("the least SINCE", x.at(0, 0, 1), 3);
        x.tie(0, 0, 1, 1);
        due("TIED", x.at(0, 0, 0), 1);
        due("no CALL", x.at(0, 0, 1), N);
        due("no NEED", x.at(0, 0, 2), N);
        due("STRENGTH", x.at(0, 0, 3), 90);
        due("at(0, 3, 1)", x.at(0, 3, 1), N);
        due("at(0, 3, 2)", x.at(0, 3, 2), N);
        due("at(0, 4, 0)", x.at(0, 4, 0), N - 1);
        due("at(0, -1, 0)", x.at(0, -1, 0), N - 1);
        due("at(1, 0, 0)", x.at(1, 0, 0), N - 1);
        due("at(0, 0, 4)", x.at(0, 0, 4), N - 1);
        due("at(0, 0, -1)", x.at(0, 0, -1), N - 1);
    }

    private static void habitsAreAsked() {
        Check.part("20 habit");
        RopeMind x = with(3);
        x.days(2);
        practise(x, 0, 2, 5, 2);
        due("how much", x.habit(0, 2, 5, 0), 6);
        due("SINCE", x.habit(0, 2, 5, 1), 2);
        due("LOSS", x.habit(0, 2, 5, 2), 1);
        due("without one", x.habit(0, 2, 4, 0), 0);
        due("SINCE without one", x.habit(0, 2, 4, 1), N);
        due("LOSS without one", x.habit(0, 2, 4, 2), 0);
        Check.tell(x, 1, "forget habit*100;");
        due("held from above", x.habit(0, 2, 5, 2), 99);
        Check.tell(x, 1, "forget 0-habit;");
        due("held from below", x.habit(0, 2, 5, 2), 0);
        Check.tell(x, 1, "forget knot*10+place+tight+wet when age=0;");
        due("what it asks", x.habit(0, 2, 5, 2), 55);
        due("habit(0, 3, 0, 0)", x.habit(0, 3, 0, 0), N - 1);
        due("habit(0, -1, 0, 0)", x.habit(0, -1, 0, 0), N - 1);
        due("habit(0, 0, 6, 0)", x.habit(0, 0, 6, 0), N - 1);
        due("habit(0, 0, -1, 0)", x.habit(0, 0, -1, 0), N - 1);
        due("habit(1, 0, 0, 0)", x.habit(1, 0, 0, 0), N - 1);
        due("habit(0, 0, 0, 3)", x.habit(0, 0, 0, 3), N - 1);
        due("habit(0, 0, 0, -1)", x.habit(0, 0, 0, -1), N - 1);
    }

    private static void bookIsAsked() {
        Check.part("21 book");
        RopeMind x = with(3);
        x.days(4);
        x.tie(0, 2, 1, 8);
        int[] want = {4, 0, 2, 1, 0, 8};
        for (int what = 0; what < 6; what++) {
            due("book(0, " + what + ")", x.book(0, what), want[what]);
        }
        due("book(0, 6)", x.book(0, 6), N - 1);
        due("book(0, -1)", x.book(0, -1), N - 1);
        due("book(1, 0)", x.book(1, 0), N - 1);
        due("book(-1, 0)", x.book(-1, 0), N - 1);
        practise(x, 0, 0, 0, 199);
        due("200 lines", x.look(3), 200);
        due("the last", x.book(199, 1), 0);
        x.tie(0, 1, 1, 3);
        due("no more then", x.look(3), 200);
        due("book(200, 0)", x.book(200, 0), N - 1);
        due("the act is done", x.at(0, 1, 0), 1);
        due("nobody's by the book", x.whose(0, 1, 0), N);
        x.undo();
        x.undo();
        x.undo();
        due("taken back", x.look(3), 199);
    }

    private static void wouldTie() {
        Check.part("22 would");
        RopeMind x = with(4);
        practise(x, 0, 1, 2, 5);
        practise(x, 0, 3, 4, 5);
        due("how many", x.would(0, 85, 0), 2);
        due("PLACE", x.would(0, 85, 1), 1);
        due("KNOT", x.would(0, 85, 2), 2);
        due("BREAKS", x.would(0, 85, 3), N);
        due("BREAKS", x.would(0, 91, 3), 0);
        due("none", x.would(0, 84, 0), 0);
        due("no PLACE", x.would(0, 84, 1), N);
        due("no KNOT", x.would(0, 84, 2), N);
        due("nothing stays", x.of(0, 4), 0);
        due("nothing stays of HABITS", x.of(0, 5), 30);
        due("no line", x.look(3), 10);
        Check.tell(x, 2, "hold 10 when tied=1; hold 99;");
        due("after it ties", x.would(0, 85, 3), 1);
        due("would(0, 100, 0)", x.would(0, 100, 0), N - 1);
        due("would(0, -1, 0)", x.would(0, -1, 0), N - 1);
        due("would(1, 0, 0)", x.would(1, 0, 0), N - 1);
        due("would(0, 0, 4)", x.would(0, 0, 4), N - 1);
        due("would(0, 0, -1)", x.would(0, 0, -1), N - 1);
    }

    private static void leastForces() {
        Check.part("23 least");
        RopeMind x = with(4);
        due("nothing stirs", x.least(0, 0), N);
        due("snaps", x.least(0, 1), 91);
        practise(x, 0, 1, 2, 5);
        practise(x, 0, 0, 2, 4);
        due("stirs", x.least(0, 0), 85);
        Check.tell(x, 2, "hold 10 when tied=1; hold 999;");
        due("by what ties itself", x.least(0, 1), 85);
        Check.tell(x, 2, "hold 99;");
        due("by none", x.least(0, 1), N);
        Check.tell(x, 2, "hold 98;");
        due("by 99", x.least(0, 1), 99);
        Check.tell(x, 0, "tie 0;");
        due("by 0", x.least(0, 0), 0);
        Check.tell(x, 0, "tie 100;");
        due("above 99", x.least(0, 0), N);
        due("least(0, 2)", x.least(0, 2), N);
        due("least(0, -1)", x.least(0, -1), N);
        due("least(1, 0)", x.least(1, 0), N);
        due("nothing stays", x.of(0, 4), 0);
    }

    private static void training() {
        Check.part("24 train");
        RopeMind x = with(4);
        due("30 times", x.train(0, 0, 0, 10), 30);
        due("31 are not tried", x.train(0, 0, 0, 9), N);
        x.set(0, 0, 9);
        due("99 at most", x.train(0, 0, 0, 1), 11);
        due("0 is out of reach", x.train(0, 0, 0, 0), N);
        practise(x, 0, 1, 1, 2);
        due("already", x.train(0, 1, 1, 94), 0);
        due("four more", x.train(0, 1, 1, 82), 4);
        due("today it has to be greater", x.train(0, 1, 2, 90), 4);
        x.days(1);
        due("an older one calls", x.train(0, 1, 2, 50), N);
        due("an older place goes first", x.train(0, 2, 2, 95), N);
        due("where that needs more", x.train(0, 2, 2, 90), 4);
        x.tie(0, 3, 0, 0);
        due("at a tied place", x.train(0, 3, 0, 99), N);
        due("train(0, 4, 0, 50)", x.train(0, 4, 0, 50), N);
        due("train(0, -1, 0, 50)", x.train(0, -1, 0, 50), N);
        due("train(0, 0, 6, 50)", x.train(0, 0, 6, 50), N);
        due("train(0, 0, -1, 50)", x.train(0, 0, -1, 50), N);
        due("train(0, 0, 0, 100)", x.train(0, 0, 0, 100), N);
        due("train(0, 0, 0, -1)", x.train(0, 0, 0, -1), N);
        due("train(1, 0, 0, 50)", x.train(1, 0, 0, 50), N);
        due("nothing stays", x.habit(0, 0, 0, 0), 0);
    }

    private static void toldPulls() {
        Check.part("25 told");
        RopeMind x = new RopeMind();
        for (int i = 1; i <= 6; i++) {
            due("told(99, 5)", x.told(99, 5), i);
        }
        due("a seventh", x.told(0, 0), N);
        due("look(10)", x.look(10), 6);
        due("told(-1, 99)", x.told(-1, 99), 0);
        due("look(10)", x.look(10), 0);
        due("told(0, -1)", x.told(0, -1), 1);
        due("told(-2, 0)", x.told(-2, 0), N);
        due("told(100, 0)", x.told(100, 0), N);
        due("told(0, -2)", x.told(0, -2), N);
        due("told(0, 6)", x.told(0, 6), N);
    }

    private static void pastsThatFit() {
        Check.part("26 fits");
        RopeMind x = with(3);
        x.tie(0, 2, 0, 0);
        practise(x, 0, 0, 3, 9);
        due("all", x.fits(0, 0, 0), 594);
        due("the first KNOT", x.fits(0, 0, 1), 0);
        due("the first HABIT", x.fits(0, 0, 2), 1);
        due("NEXT", x.fits(0, 0, 3), 49);
        due("TIED", x.fits(0, 2, 0), N);
        due("fits(0, 3, 0)", x.fits(0, 3, 0), N);
        due("fits(0, -1, 0)", x.fits(0, -1, 0), N);
        due("fits(1, 0, 0)", x.fits(1, 0, 0), N);
        due("fits(0, 0, 4)", x.fits(0, 0, 4), N);
        due("fits(0, 0, -1)", x.fits(0, 0, -1), N);
        x.told(50, 4);
        x.told(48, -1);
        due("two fit", x.fits(0, 0, 0), 2);
        due("k", x.fits(0, 0, 1), 4);
        due("v", x.fits(0, 0, 2), 50);
        due("NEXT of two", x.fits(0, 0, 3), 49);
        x.told(49, 4);
        due("one fits", x.fits(0, 0, 0), 1);
        due("no NEXT", x.fits(0, 0, 3), N);
        x.told(49, -1);
        due("none fits", x.fits(0, 0, 0), 0);
        due("no k", x.fits(0, 0, 1), N);
        due("no v", x.fits(0, 0, 2), N);
        x.told(-1, 0);
        Check.tell(x, 0, "tie 30+age*100+beside*10+habit*0;");
        due("NEXT if none tells", x.fits(0, 0, 3), 0);
        x.told(40, 2);
        x.told(39, -1);
        due("beside as it is", x.fits(0, 1, 0), 99);
        x.days(5);
        due("SINCE this DAY", x.fits(0, 1, 0), 99);
        x.rope(5, 5);
        due("not on a ROPE where none is beside", x.fits(1, 1, 0), 0);
        due("on this one still", x.fits(0, 1, 0), 99);
        x.told(-1, 0);
        Check.tell(x, 0, "tie 100 when knot<3; tie 200;");
        due("99 is the greatest FORCE", x.fits(0, 0, 3), 0);
        Check.tell(x, 0, "tie 99 when knot<3; tie 200;");
        due("NEXT 99", x.fits(0, 0, 3), 99);
        due("nothing stays", x.habit(0, 1, 2, 0), 0);
        due("nothing stays", x.habit(0, 0, 3, 0), 22);
    }

    private static void weakAndLadder() {
        Check.part("27, 28 weak and ladder");
        RopeMind x = with(4, 6, 6);
        due("ladder(7)", x.ladder(7), N);
        due("of several the first", x.ladder(5), 1);
        due("ladder(4)", x.ladder(4), 0);
        due("ladder(MIN)", x.ladder(LOW), 0);
        due("ladder(MAX)", x.ladder(HIGH), N);
        due("weak(0, 0)", x.weak(0, 0), 90);
        due("weak(0, 1)", x.weak(0, 1), 0);
        Check.tell(x, 2, "hold 50-cross*10 when tied=1; hold 60-length;");
        x.tie(0, 3, 0, 0);
        x.tie(0, 2, 0, 0);
        x.set(1, 1, 0);
        x.tie(1, 0, 1, 0);
        due("the first with the least", x.weak(0, 1), 2);
        due("the least", x.weak(0, 0), 30);
        due("weak(1, 0)", x.weak(1, 0), 50);
        due("the greatest least", x.ladder(2), 2);
        due("weak(3, 0)", x.weak(3, 0), N);
        due("weak(0, 2)", x.weak(0, 2), N);
        due("weak(0, -1)", x.weak(0, -1), N);
        Check.tell(x, 2, "hold 5000;");
        due("999", x.weak(1, 0), 999);
        due("ladder of 999", x.ladder(2), 0);
        Check.tell(x, 2, "hold 0;");
        due("ladder of 0", x.ladder(2), 0);
        due("new: none", new RopeMind().ladder(2), N);
    }

    private static void ordersAndYard() {
        Check.part("29, 30 order and yard");
        RopeMind x = new RopeMind();
        due("no orders, no ropes", x.yard(0), 0);
        x.order(1);
        due("an order, no ropes", x.yard(0), N);
        x.order(N);
        due("yard(10)", x.yard(10), N);
        for (int i = 1; i <= 7; i++) {
            due("order", x.order(i == 1 ? 24 : 1), i);
        }
        due("an eighth", x.order(1), N);
        due("no ropes", x.yard(0), N);
        due("order(NONE)", x.order(N), 0);
        due("order(0)", x.order(0), N);
        due("order(25)", x.order(25), N);
        due("order(-2)", x.order(-2), N);

        RopeMind y = with(5, 9, 10, 3);
        for (int length : new int[] {5, 4, 6, 4, 3}) {
            y.order(length);
        }
        // 22 in all: no two ropes have 22, so three; 5 on rope 0 leaves 4 6 4 3 for two ropes.
        due("three ropes", y.yard(0), 3);
        due("ORDER 0", y.yard(10), 0);
        due("ORDER 1", y.yard(11), 1);
        due("ORDER 2", y.yard(12), 2);
        due("ORDER 3", y.yard(13), 1);
        due("ORDER 4", y.yard(14), 2);
        due("yard(15)", y.yard(15), N);
        due("yard(9)", y.yard(9), N);
        due("yard(1)", y.yard(1), N);
        due("yard(-1)", y.yard(-1), N);
        due("yard(MIN)", y.yard(LOW), N);
        y.order(10);
        due("too much", y.yard(0), N);
        due("yard(10) then", y.yard(10), N);

        RopeMind z = with(4, 8);
        z.order(4);
        z.order(4);
        due("one rope does", z.yard(0), 1);
        due("not the first then", z.yard(10), 1);
        z.order(4);
        due("two do", z.yard(0), 2);
        due("the first way", z.yard(10), 0);
        due("the first way", z.yard(11), 1);

        RopeMind all = with(2, 2, 2, 2, 2, 2, 2, 2);
        for (int i = 0; i < 7; i++) {
            all.order(2);
        }
        due("seven ropes", all.yard(0), 7);
        due("the seventh", all.yard(16), 6);
        due("yard(17)", all.yard(17), N);
    }

    private static void movesOfShapes() {
        Check.part("31 moves");
        RopeMind x = new RopeMind();
        due("none by none", x.moves(0, 3), 0);
        Check.tell(x, 4, "ou");
        due("they go", x.moves(0, 1), 1);
        due("they come", x.moves(1, 0), 1);
        Check.tell(x, 4, "uo");
        due("u o too", x.moves(0, 1), 1);
        Check.tell(x, 4, "tt");
        due("two t", x.moves(0, 1), 1);
        Check.tell(x, 4, "oo");
        due("never", x.moves(0, 1), N);
        Check.tell(x, 5, "ootot");
        Check.tell(x, 4, "ooo");
        due("t o changes place, then they go", x.moves(1, 0), 2);
        Check.tell(x, 4, "ouououo");
        Check.tell(x, 5, "o");
        due("three pairs", x.moves(0, 1), 3);
        Check.tell(x, 4, "ooootuu");
        Check.tell(x, 5, "uuootoo");
        due("seven at most: two pairs go, two come, t passes four", x.moves(0, 1), 8);
        Check.tell(x, 4, "tuo");
        Check.tell(x, 5, "uto");
        due("a t changes place", x.moves(0, 1), 1);
        Check.tell(x, 4, "oootuuu");
        Check.tell(x, 5, "uuutooo");
        due("12, the farthest there are", x.moves(0, 1), 12);
        due("and back", x.moves(1, 0), 12);
        due("moves(0, 4)", x.moves(0, 4), N);
        due("moves(-1, 0)", x.moves(-1, 0), N);
        Check.tell(x, 4, "ooooooo");
        Check.tell(x, 5, "ooooooo");
        due("the same", x.moves(0, 1), 0);
    }

    private static void shapesAndMarks() {
        Check.part("32, 33 shape and unlike");
        RopeMind x = new RopeMind();
        Check.tell(x, 4, "uutot");
        Check.tell(x, 5, "ut");
        Check.tell(x, 7, "u");
        due("letters", x.shape(0, 0), 5);
        due("o less u", x.shape(0, 1), -1);
        due("t modulo 2", x.shape(0, 2), 0);
        due("u", x.shape(0, 10), 1);
        due("t", x.shape(0, 12), 2);
        due("o", x.shape(0, 13), 0);
        due("shape(0, 15)", x.shape(0, 15), N - 99);
        due("shape(0, 9)", x.shape(0, 9), N - 99);
        due("shape(0, 3)", x.shape(0, 3), N - 99);
        due("shape(0, -1)", x.shape(0, -1), N - 99);
        due("shape(4, 0)", x.shape(4, 0), N - 99);
        due("shape(-1, 0)", x.shape(-1, 0), N - 99);
        due("shape(2, 10)", x.shape(2, 10), N - 99);
        due("shape(1, 2)", x.shape(1, 2), 1);
        due("unlike by t", x.unlike(0, 1), 1);
        due("alike", x.unlike(0, 3), 0);
        due("unlike by o", x.unlike(2, 3), 1);
        due("itself", x.unlike(1, 1), 0);
        due("unlike(0, 4)", x.unlike(0, 4), N);
        due("unlike(-1, 0)", x.unlike(-1, 0), N);
    }

    private static void whoseKnots() {
        Check.part("34 whose");
        RopeMind x = with(6);
        x.tie(0, 4, 1, 3);
        x.untie(0, 4);
        x.tie(0, 4, 2, 5);
        x.untie(0, 4);
        due("the latest", x.whose(0, 4, 0), 5);
        x.pull(0, 97);
        due("not by itself", x.whose(0, 4, 0), 5);
        RopeMind y = with(6);
        y.tie(0, 4, 1, 3);
        y.cut(0, 3);
        due("as it was then", y.whose(0, 4, 0), 3);
        due("not as it is", y.whose(1, 1, 0), N);
        due("nobody", y.whose(0, 23, 0), N);
        due("none sold", y.whose(0, 0, 1), 0);
        y.sell(0, 4);
        y.sell(1, 4);
        y.sell(0, 5);
        due("two sold", y.whose(0, 99, 1), 2);
        due("one sold", y.whose(1, -1, 1), 1);
        due("whose(7, 0, 1)", y.whose(7, 0, 1), 0);
        due("whose(8, 0, 1)", y.whose(8, 0, 1), N - 1);
        due("whose(-1, 0, 0)", y.whose(-1, 0, 0), N - 1);
        due("whose(0, 24, 0)", y.whose(0, 24, 0), N - 1);
        due("whose(0, -1, 0)", y.whose(0, -1, 0), N - 1);
        due("whose(0, 0, 2)", y.whose(0, 0, 2), N - 1);
        due("whose(0, 0, -1)", y.whose(0, 0, -1), N - 1);
    }

    private static void undoing() {
        Check.part("35 undo");
        RopeMind x = with(6, 3);
        due("nothing", x.undo(), false);
        x.tie(0, 0, 0, 1);
        x.tie(0, 0, 0, 1);
        due("a refused one is none", x.look(9), 1);
        x.untie(0, 0);
        x.wet(0, 1);
        x.pull(0, 0);
        due("four", x.look(9), 4);
        x.cut(0, 3);
        due("five", x.look(9), 5);
        x.splice(0, 1);
        due("five are kept", x.look(9), 5);
        due("undo the splice", x.undo(), true);
        due("look(0)", x.look(0), 7);
        due("undo the cut", x.undo(), true);
        due("LENGTH", x.of(0, 0), 6);
        due("undo the pull", x.undo(), true);
        due("undo the wetting", x.undo(), true);
        due("WET", x.of(0, 3), 0);
        due("HABIT", x.habit(0, 0, 0, 0), 3);
        due("undo the untying", x.undo(), true);
        due("TIED", x.at(0, 0, 0), 0);
        due("the sixth is gone", x.undo(), false);

        RopeMind y = with(3);
        y.set(2, 0, 1);
        y.state(77);
        y.days(7);
        due("each DAY", y.look(9), 5);
        y.undo();
        due("one DAY back", y.look(1), 6);
        for (int i = 0; i < 4; i++) {
            y.undo();
        }
        due("DAY 2", y.look(1), 2);
        int after2 = 77;
        after2 = after2 * 1664525 + 1013904223;
        after2 = after2 * 1664525 + 1013904223;
        due("STATE goes back", y.look(4), after2);
        due("no more", y.undo(), false);

        RopeMind z = with(3);
        z.sell(0, 5);
        z.pull(0, 95);
        due("two lines", z.look(3), 2);
        z.undo();
        due("one line", z.look(3), 1);
        due("there again", z.look(0), 1);
        z.undo();
        due("OWNER", z.of(0, 1), 1);
        due("no line", z.look(3), 0);
    }

    private static void whatForgetsUndo() {
        Check.part("35 undo, what forgets");
        RopeMind x = with(3);
        x.tie(0, 0, 0, 0);
        Check.tell(x, 0, "tie 5;");
        Check.tell(x, 4, "o");
        x.told(5, 5);
        x.order(4);
        x.image(true);
        x.rope(99, 0);
        x.set(0, 9, 9);
        x.fits(0, 1, 0);
        due("texts, TOLD pulls, ORDERS, the image, what is refused: not", x.look(9), 1);
        due("undo()", x.undo(), true);
        due("the law stays", x.look(5), 1);
        due("the shape stays", x.shape(0, 0), 1);
        due("the told stays", x.look(10), 1);
        due("the order stays", x.look(11), 1);
        x.tie(0, 0, 0, 0);
        x.set(0, 0, 3);
        due("set forgets", x.undo(), false);
        x.untie(0, 0);
        x.state(0);
        due("state forgets", x.undo(), false);
        x.tie(0, 0, 0, 0);
        x.rope(2, 0);
        due("rope forgets", x.undo(), false);
        x.untie(0, 0);
        x.image(false);
        due("going back to the image forgets", x.undo(), false);
    }

    private static void images() {
        Check.part("36 image");
        RopeMind x = with(3);
        due("none", x.image(false), false);
        Check.tell(x, 0, "tie 1;");
        Check.tell(x, 1, "forget 1;");
        Check.tell(x, 2, "hold 1;");
        Check.tell(x, 3, "wet 1;");
        Check.tell(x, 4, "out");
        x.set(0, 1, 7);
        x.set(1, 1, 8);
        x.set(2, 0, 9);
        x.state(99);
        x.told(1, 1);
        x.order(5);
        x.tie(0, 1, 1, 4);
        due("image(true)", x.image(true), true);
        for (int turn = 0; turn < 2; turn++) {
            for (int k = 0; k < 8; k++) {
                Check.tell(x, k, "");
            }
            x.set(0, 1, 1);
            x.set(1, 1, 1);
            x.set(2, 0, 0);
            x.state(1);
            x.told(-1, 0);
            x.order(-1);
            x.undo();
            x.untie(0, 1);
            x.tie(0, 2, 5, 5);
            x.rope(5, 5);
            x.days(5);
            Check.tell(x, 0, "oops");
            x.feed(0, 0, 0, 0, 0);
            due("image(false)", x.image(false), true);
            int[] want = {1, 0, 9, 1, 99, 1, 1, 1, 1, 0, 1, 1};
            for (int what = 0; what < 12; what++) {
                due("look(" + what + ")", x.look(what), want[what]);
            }
            due("TIGHT", x.look(21), 7);
            due("CROSS", x.look(31), 8);
            due("the shape", x.shape(0, 12), 2);
            due("TIED", x.at(0, 1, 0), 1);
            due("HABIT", x.habit(0, 1, 1, 0), 7);
            due("not the other", x.at(0, 2, 0), N);
            due("the book", x.book(0, 5), 4);
            due("the order", x.yard(0), N);
            due("fault() is not of it", x.fault(0), 1);
            due("the TAPE is not of it", x.feed(0, 0, 0, 0, 0), 40);
            x.end(0);
        }
        x.days(1);
        x.image(true);
        x.days(1);
        x.image(false);
        due("the later one", x.look(1), 1);
    }

    private static void looking() {
        Check.part("37 look");
        RopeMind x = with(2, 2, 2);
        x.splice(0, 1);
        due("look(0)", x.look(0), 5);
        due("look(12)", x.look(12), N);
        due("look(19)", x.look(19), N);
        due("look(26)", x.look(26), N);
        due("look(29)", x.look(29), N);
        due("look(36)", x.look(36), N);
        due("look(-1)", x.look(-1), N);
        for (int k = 0; k < 6; k++) {
            due("TIGHT", x.look(20 + k), 3);
            due("CROSS", x.look(30 + k), 2);
        }
        due("look(9)", x.look(9), 1);
        due("look(3)", x.look(3), 1);
    }

    /** No call may throw, whatever it is asked: every argument far off, alone and with others. */
    private static void farOffInputs() {
        Check.part("wrong inputs");
        int[] odd = {LOW, LOW + 1, -100, -2, -1, 0, 1, 5, 6, 9, 10, 16, 23, 24, 25, 99, 100, 400, HIGH - 1, HIGH};
        RopeMind x = with(24, 2);
        Check.tell(x, 0, "tie habit*9999*9999-age/3;");
        for (int a : odd) {
            x.state(a);
            x.fault(a);
            x.ladder(a);
            x.order(a);
            x.yard(a);
            x.look(a);
            x.end(a);
            x.text(a);
            x.days(a);
            for (int b : odd) {
                x.untie(a, b);
                x.pull(a, b);
                x.wet(a, b);
                x.cut(a, b);
                x.splice(a, b);
                x.sell(a, b);
                x.drill(a, b);
                x.of(a, b);
                x.book(a, b);
                x.least(a, b);
                x.told(a, b);
                x.weak(a, b);
                x.moves(a, b);
                x.shape(a, b);
                x.unlike(a, b);
                x.rope(a, b);
                for (int c : odd) {
                    x.set(a, b, c);
                    x.at(a, b, c);
                    x.would(a, b, c);
                    x.fits(a, b, c);
                    x.whose(a, b, c);
                }
            }
            for (int b : new int[] {LOW, -1, 0, 5, 24, HIGH}) {
                for (int c : new int[] {LOW, -1, 0, 5, 6, HIGH}) {
                    for (int d : new int[] {LOW, -1, 0, 2, 9, 99, HIGH}) {
                        x.tie(a, b, c, d);
                        x.habit(a, b, c, d);
                        x.train(a, b, c, d);
                    }
                }
            }
        }
        due("it still answers", x.look(20) >= 1, true);
    }
}

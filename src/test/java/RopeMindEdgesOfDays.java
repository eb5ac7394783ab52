import java.util.List;
import java.util.function.Consumer;

/** ==== 3. of the document's terms, with promises 12, 17 and 21: days, storms, the book's 200 lines, drills. */
public final class RopeMindEdgesOfDays {
    private static final int N = Ready.N;
    private static final int LOW = Ready.LOW;
    private static final int HIGH = Ready.HIGH;

    private RopeMindEdgesOfDays() { }

    public static void main(String[] args) {
        daysGoFromOneTo60();
        dayIsNotAbove9999();
        habitsAreZeroAtLeast();
        tiedPlacesForgetNothing();
        everyKnotOfEveryPlaceForgets();
        lossIsAskedAheadOfTheDay();
        wetIsZeroAtLeast();
        noStormNoDraw();
        aStormWithoutRopes();
        aStormPullsByNumber();
        aStormPullsThoseThereAhead();
        aStormIsOnTheDayThatEnds();
        everyBreakIsCounted();
        theBookHas200Lines();
        aPullAcrossTheLastLine();
        everyActBehindTheLastLine();
        linesOfEachKind();
        bookAsksSixThings();
        drillsOfNothing();
        drillsDoWhatCanBeDone();
        stepsAreAsCallsAre();
        drillsAtTheEndOfDays();
        drillsOfALostRope();
        drillsRestForAll();
        drillsRefused();
        drillsTieByTheirHand();
        Check.end();
    }

    private static void due(String call, long got, long want) {
        Check.due(call, got, want);
    }

    private static void due(String call, boolean got, boolean want) {
        Check.due(call, got, want);
    }

    // DAYS.

    private static void daysGoFromOneTo60() {
        Check.part("days: DAYS go by (1 .. 60); NONE, and nothing is done, if one can't be");
        RopeMind x = Ready.with(2);
        Ready.habit(x, 0, 0, 0, 80);
        for (int n : new int[] {0, 61, -1, LOW, HIGH}) {
            due("days(" + n + ")", x.days(n), N);
        }
        due("DAY 0", x.look(1), 0);
        due("nothing is forgotten", x.habit(0, 0, 0, 0), 80);
        due("nothing to undo", x.look(9), 0);
        due("days(1)", x.days(1), 0);
        due("DAY 1", x.look(1), 1);
        due("79", x.habit(0, 0, 0, 0), 79);
        due("days(60)", x.days(60), 0);
        due("DAY 61", x.look(1), 61);
        due("19", x.habit(0, 0, 0, 0), 19);
    }

    private static void dayIsNotAbove9999() {
        Check.part("days: NONE, and nothing is done, if DAY would be above 9999");
        RopeMind x = Ready.onDay(9940);
        Ready.habit(x, 0, 0, 0, 80);
        due("10000", x.days(60), N);
        due("DAY 9940", x.look(1), 9940);
        due("nothing is forgotten", x.habit(0, 0, 0, 0), 80);
        due("nothing to undo", x.look(9), 0);
        due("9999", x.days(59), 0);
        due("DAY 9999", x.look(1), 9999);
        due("21", x.habit(0, 0, 0, 0), 21);
        due("10000", x.days(1), N);
        due("10059", x.days(60), N);
        due("DAY 9999 still", x.look(1), 9999);
        due("five to undo", x.look(9), 5);
        x.undo();
        due("DAY 9998", x.look(1), 9998);
        due("9999 again", x.days(1), 0);
    }

    private static void habitsAreZeroAtLeast() {
        Check.part("HABIT is LOSS less (0 at least)");
        int[] habits = {1, 2, 3, 4, 99};
        int[] losses = {0, 1, 2, 3, 4, 98, 99};
        for (int habit : habits) {
            for (int loss : losses) {
                RopeMind x = Ready.with(2);
                Ready.habit(x, 0, 0, 0, habit);
                Ready.tell(x, 1, "forget " + loss + ";");
                x.days(1);
                due(habit + " less " + loss, x.habit(0, 0, 0, 0), Math.max(0, habit - loss));
                due("SINCE", x.habit(0, 0, 0, 1), habit > loss ? 0 : N);
            }
        }
    }

    private static void tiedPlacesForgetNothing() {
        Check.part("of untied PLACES: HABIT is LOSS less");
        RopeMind x = Ready.with(3);
        for (int place = 0; place < 3; place++) {
            Ready.habit(x, 0, place, 0, 50);
            Ready.habit(x, 0, place, 5, 40);
        }
        x.tie(0, 1, 0, 0);
        x.days(10);
        due("untied", x.habit(0, 0, 0, 0), 40);
        due("TIED", x.habit(0, 1, 0, 0), 53);
        due("TIED, another KNOT's", x.habit(0, 1, 5, 0), 40);
        due("untied", x.habit(0, 2, 5, 0), 30);
        due("LOSS of one that is TIED is told", x.habit(0, 1, 0, 2), 1);
    }

    private static void everyKnotOfEveryPlaceForgets() {
        Check.part("ROPE by ROPE, PLACE by PLACE, KNOT by KNOT");
        RopeMind x = Ready.with(2, 2, 2, 2, 2, 2, 2, 3);
        for (int k = 0; k < 6; k++) {
            x.set(0, k, 9);
            Ready.practise(x, 0, 0, k, 1);
            Ready.practise(x, 7, 2, k, 1);
        }
        Ready.tell(x, 1, "forget knot+place;");
        x.days(1);
        for (int k = 0; k < 6; k++) {
            due("the first ROPE's first PLACE, KNOT " + k, x.habit(0, 0, k, 0), 9 - k);
            due("the last ROPE's last PLACE, KNOT " + k, x.habit(7, 2, k, 0), 7 - k);
        }
    }

    private static void lossIsAskedAheadOfTheDay() {
        Check.part("A DAY: .. HABIT is LOSS less. WET is one less. .. DAY is one more");
        RopeMind x = Ready.with(2);
        Ready.habit(x, 0, 0, 0, 50);
        Ready.tell(x, 1, "forget 10 when age=0; forget 20 when age=1; forget 0;");
        x.days(1);
        due("age 0 on the first", x.habit(0, 0, 0, 0), 40);
        x.days(1);
        due("age 1 on the second", x.habit(0, 0, 0, 0), 20);
        x.days(1);
        due("age 2 on the third", x.habit(0, 0, 0, 0), 20);
        Ready.tell(x, 1, "forget wet;");
        x.wet(0, 2);
        due("5 more", x.habit(0, 0, 0, 0), 25);
        x.days(1);
        due("WET 2 ahead of the DAY", x.habit(0, 0, 0, 0), 23);
        x.days(1);
        due("WET 1", x.habit(0, 0, 0, 0), 22);
        x.days(1);
        due("WET 0", x.habit(0, 0, 0, 0), 22);
    }

    private static void wetIsZeroAtLeast() {
        Check.part("WET is one less (0 at least)");
        RopeMind x = Ready.with(2, 2);
        x.wet(0, 9);
        x.wet(1, 1);
        x.days(1);
        due("8", x.of(0, 3), 8);
        due("0", x.of(1, 3), 0);
        x.days(1);
        due("7", x.of(0, 3), 7);
        due("0 still", x.of(1, 3), 0);
        x.days(60);
        due("0", x.of(0, 3), 0);
    }

    // STORMS.

    private static void noStormNoDraw() {
        Check.part("if STORM is above 0, a DRAW of 1000");
        RopeMind x = Ready.with(2);
        x.state(5);
        x.days(60);
        due("STORM 0: no DRAW", x.look(4), 5);
        x.set(2, 0, 1);
        x.state(Ready.before(7 << 8));
        x.days(1);
        due("STORM 1: one", x.look(4), 7 << 8);
        x.set(2, 0, 0);
        x.days(1);
        due("STORM 0 again", x.look(4), 7 << 8);
    }

    private static void aStormWithoutRopes() {
        Check.part("each ROPE that was there: none");
        RopeMind x = new RopeMind();
        x.set(2, 0, 1000);
        x.state(9);
        due("no BREAKS", x.days(2), 0);
        due("one DRAW a DAY", x.look(4), Ready.after(Ready.after(9)));
    }

    private static void aStormPullsByNumber() {
        Check.part("each ROPE by number is PULLED by a DRAW of 100");
        RopeMind x = Ready.with(4, 4, 4, 4, 4, 4, 4, 4);
        Ready.tell(x, 2, "hold 99;");
        Ready.tell(x, 1, "forget 0;");
        for (int i = 0; i < 8; i++) {
            Ready.practise(x, i, 1, i % 6, 1);
        }
        Ready.tell(x, 0, "tie 0;");
        x.set(2, 0, 1000);
        x.state(3);
        int line = x.look(3);
        due("no BREAKS", x.days(1), 0);
        int state = 3;
        for (int i = 0; i < 9; i++) {
            state = Ready.after(state);
        }
        due("nine DRAWS", x.look(4), state);
        for (int i = 0; i < 8; i++) {
            due("ROPE " + i, x.book(line + i, 1), i);
            due("its KNOT", x.book(line + i, 3), i % 6);
        }
        RopeMind y = Ready.with(9, 9, 9);
        Ready.tell(y, 2, "hold place*9;");
        y.set(2, 0, 1000);
        y.state(Ready.before(Ready.before(1 << 8)));
        int first = 1 << 8;
        int second = Ready.after(first);
        int third = Ready.after(second);
        int forces = ((first >>> 8) % 100 > 0 ? 1 : 0) + ((second >>> 8) % 100 > 0 ? 1 : 0) + ((third >>> 8) % 100 > 0 ? 1 : 0);
        due("each by a DRAW of its own", y.days(1), forces);
        due("STATE then", y.look(4), third);
    }

    private static void aStormPullsThoseThereAhead() {
        Check.part("each ROPE that was there ahead of it");
        RopeMind x = Ready.with(8, 8, 8, 8);
        Ready.tell(x, 2, "hold 0 when place=4; hold 999;");
        x.set(2, 0, 1000);
        int state = 0;
        for (; !stirsAll(state, 4); state++) {
            due("a state is found", state < 1000, true);
        }
        x.state(state);
        due("each breaks once", x.days(1), 4);
        due("the new ones did not", x.look(0), 255);
        for (int i = 0; i < 8; i++) {
            due("LENGTH of " + i, x.of(i, 0), 4);
        }
        due("four lines", x.look(3), 4);
    }

    /** Whether so many DRAWS of 100 behind the DRAW of 1000 are all above 0. */
    private static boolean stirsAll(int state, int ropes) {
        int s = Ready.after(state);
        for (int i = 0; i < ropes; i++) {
            s = Ready.after(s);
            if ((s >>> 8) % 100 == 0) {
                return false;
            }
        }
        return true;
    }

    private static void aStormIsOnTheDayThatEnds() {
        Check.part("Then, if STORM is above 0 .. DAY is one more");
        RopeMind x = Ready.with(4);
        Ready.tell(x, 0, "tie 0 when habit=9 and wet=1; tie 999;");
        Ready.tell(x, 2, "hold 99;");
        Ready.habit(x, 0, 0, 0, 5);
        x.wet(0, 2);
        x.set(2, 0, 1000);
        x.days(1);
        due("pulled with what the DAY left", x.of(0, 4), 1);
        int line = x.look(3) - 1;
        due("by itself", x.book(line, 4), 1);
        due("on DAY 0", x.book(line, 0), 0);
        due("DAY 1", x.look(1), 1);
    }

    private static void everyBreakIsCounted() {
        Check.part("days: how many BREAKS there were");
        RopeMind x = Ready.with(2, 2, 24);
        Ready.tell(x, 2, "hold 0 when length=24 and place=22; hold 0 when length=22 and place=20; hold 999;");
        x.set(2, 0, 1000);
        int broken = x.days(2);
        due("as many as lines", broken, x.look(3));
        due("some broke", broken >= 1, true);
        RopeMind y = Ready.with(2, 2, 2);
        Ready.tell(y, 2, "hold 0 when place=1; hold 999;");
        y.set(2, 0, 1000);
        due("what is lost broke, too", y.days(30), 3);
        due("none is left", y.look(0), 0);
    }

    // THE BOOK.

    private static void theBookHas200Lines() {
        Check.part("THE BOOK (200 lines; no more then)");
        RopeMind x = Ready.with(3);
        Ready.fill(x, 199);
        due("line 198", x.book(198, 4), 5);
        due("line 199", x.book(199, 4), N - 1);
        due("the 200th", x.tie(0, 0, 4, 7), true);
        due("200", x.look(3), 200);
        due("line 199", x.book(199, 3), 4);
        due("its HAND", x.book(199, 5), 7);
        due("the 201st", x.tie(0, 1, 3, 8), true);
        due("200 still", x.look(3), 200);
        due("line 200", x.book(200, 0), N - 1);
        due("line 199 is as it was", x.book(199, 5), 7);
        due("line 0 too", x.book(0, 4), 5);
        due("it is TIED", x.at(0, 1, 0), 3);
        due("by THE BOOK nobody's", x.whose(0, 1, 0), N);
        due("undo()", x.undo(), true);
        due("200 still", x.look(3), 200);
        due("undo()", x.undo(), true);
        due("199", x.look(3), 199);
        due("line 199 is gone", x.book(199, 3), N - 1);
        x.tie(0, 2, 5, 9);
        due("another 200th", x.book(199, 5), 9);
    }

    private static void aPullAcrossTheLastLine() {
        Check.part("200 lines; no more then: a PULL of several lines");
        RopeMind x = Ready.with(6);
        Ready.tell(x, 0, "tie 0;");
        Ready.tell(x, 2, "hold 0 when place=4; hold 999;");
        for (int place = 0; place < 3; place++) {
            Ready.practise(x, 0, place, place, 1);
        }
        Ready.fill(x, 198);
        due("three tie themselves", x.pull(0, 1), 3);
        due("200", x.look(3), 200);
        due("the first", x.book(198, 2), 0);
        due("the second", x.book(199, 2), 1);
        due("the third is TIED", x.at(0, 2, 0), 2);
        due("and it broke", x.look(0), 3);
        due("undo()", x.undo(), true);
        due("198", x.look(3), 198);
    }

    private static void everyActBehindTheLastLine() {
        Check.part("200 lines; no more then: every ACT is done");
        RopeMind x = Ready.with(12, 4);
        Ready.fill(x, 200);
        due("sell", x.sell(1, 5), true);
        due("OWNER", x.of(1, 1), 5);
        due("no SALE by THE BOOK", x.whose(1, 0, 1), 0);
        due("cut", x.cut(0, 6), 2);
        due("splice", x.splice(0, 1), 10);
        due("pull", x.pull(0, 91), 0);
        due("it broke at 0", x.look(0), 6);
        due("tie", x.tie(1, 1, 1, 1), true);
        due("200", x.look(3), 200);
        due("all are SALES", x.book(199, 4), 5);
    }

    private static void lineIs(RopeMind x, int i, int... want) {
        for (int what = 0; what < 6; what++) {
            due("line " + i + ", " + what, x.book(i, what), want[what]);
        }
    }

    private static void linesOfEachKind() {
        Check.part("DAY, ROPE, PLACE, what, how; the HAND (0; else NONE)");
        RopeMind x = Ready.with(8);
        x.days(3);
        x.tie(0, 7, 5, 0);
        x.untie(0, 7);
        x.pull(0, 97);
        lineIs(x, 0, 3, 0, 7, 5, 0, 0);
        lineIs(x, 1, 3, 0, 7, 5, 1, N);
        lineIs(x, 2, 3, 0, 0, 1, 2, N);
        x.days(1);
        x.cut(1, 4);
        lineIs(x, 3, 4, 1, 4, 0, 3, N);
        x.splice(0, 1);
        lineIs(x, 4, 4, 0, 4, 1, 4, N);
        x.sell(0, 9);
        lineIs(x, 5, 4, 0, N, 9, 5, N);
        x.wet(0, 1);
        x.untie(0, 3);
        due("no line of wetting and untying", x.look(3), 6);
    }

    private static void bookAsksSixThings() {
        Check.part("book: NONE - 1 if there is none such, or another what");
        RopeMind x = Ready.with(2);
        for (int what = -1; what <= 6; what++) {
            due("of an empty one", x.book(0, what), N - 1);
        }
        x.tie(0, 0, 0, 0);
        x.tie(0, 1, 0, 0);
        for (int what : new int[] {-1, 6, LOW, HIGH}) {
            due("book(1, " + what + ")", x.book(1, what), N - 1);
        }
        for (int i : new int[] {-1, 2, 200, LOW, HIGH}) {
            due("book(" + i + ", 0)", x.book(i, 0), N - 1);
        }
        due("the first", x.book(0, 2), 0);
        due("the last", x.book(1, 2), 1);
    }

    // DRILLS.

    private static void drillsOfNothing() {
        Check.part("A DRILL of no STEPS");
        RopeMind x = Ready.with(2);
        due("drill(0, 0)", x.drill(0, 0), 0);
        Ready.tell(x, 3, "again 9()");
        due("again of nothing", x.drill(0, 0), 0);
        due("two to undo", x.look(9), 2);
    }

    private static void drillsDoWhatCanBeDone() {
        Check.part("STEP by STEP what can be done with it (else nothing): how many STEPS were done");
        RopeMind x = Ready.with(3);
        Ready.tell(x, 3, "tie 1 at 2; tie 1 at 3; tie 2 at 2; untie 2; untie 2; untie 3; untie 23; tie 0 at 23; wet 9; wet 9;");
        due("tie, untie, wet, wet", x.drill(0, 0), 4);
        due("PLACE 2 is untied", x.at(0, 2, 0), N);
        due("8", x.habit(0, 2, 1, 0), 8);
        due("one line", x.look(3), 1);
        RopeMind y = Ready.with(24);
        Ready.tell(y, 3, "tie 5 at 23; untie 23; tie 0 at 0; pull 0; pull 97; rest 30;");
        due("all but the rest", y.drill(0, 0), 5);
        due("TIED by itself at 23", y.book(2, 2), 23);
        due("DAY 0, for the ROPE broke", y.look(1), 0);
    }

    private static RopeMind drilled(String drill) {
        RopeMind x = Ready.with(6, 5);
        Ready.habit(x, 0, 1, 3, 60);
        Ready.habit(x, 0, 5, 2, 30);
        x.tie(0, 2, 2, 2);
        x.set(2, 0, 600);
        Ready.tell(x, 0, "tie 2 when place=1; tie 100-habit;");
        Ready.tell(x, 3, drill);
        return x;
    }

    private static void stepsAreAsCallsAre() {
        Check.part("STEP by STEP: tie, untie, pull, wet; rest: as the calls of these names, and nothing else");
        List<String> steps = List.of("tie 4 at 3;", "untie 2;", "pull 3;", "pull 45;", "pull 99;", "wet 5;", "wet 0;", "rest 1;");
        List<Consumer<RopeMind>> calls = List.of(x -> x.tie(0, 3, 4, 7), x -> x.untie(0, 2), x -> x.pull(0, 3), x -> x.pull(0, 45),
                x -> x.pull(0, 99), x -> x.wet(0, 5), x -> x.wet(0, 0), x -> x.days(1));
        for (int i = 0; i < steps.size(); i++) {
            String step = steps.get(i);
            Consumer<RopeMind> call = calls.get(i);
            Twins.alike(step, () -> {
                RopeMind x = drilled(step);
                due("one is done", x.drill(0, 7), 1);
                return x;
            }, () -> {
                RopeMind x = drilled(step);
                call.accept(x);
                return x;
            });
        }
    }

    private static void drillsAtTheEndOfDays() {
        Check.part("drill: NONE, and nothing is done, if DAY would be above 9999 by all its rests");
        RopeMind x = Ready.onDay(9990);
        Ready.tell(x, 3, "tie 0 at 0; again 2(rest 5;)");
        due("10000", x.drill(0, 0), N);
        due("nothing is done", x.of(0, 4), 0);
        due("nothing to undo", x.look(9) == 5, true);
        due("DAY 9990", x.look(1), 9990);
        Ready.tell(x, 3, "tie 0 at 0; rest 4; again 5(rest 1;)");
        due("9999", x.drill(0, 0), 7);
        due("DAY 9999", x.look(1), 9999);
        Ready.tell(x, 3, "untie 0;");
        due("without a rest", x.drill(0, 0), 1);
        Ready.tell(x, 3, "rest 1;");
        due("with one", x.drill(0, 0), N);
        Ready.tell(x, 3, "pull 99; rest 1;");
        due("though the ROPE would be lost", x.drill(0, 0), N);
        due("it is there", x.look(0), 1);
        Ready.tell(x, 3, "again 5(again 5(again 6(rest 30;)))");
        RopeMind y = Ready.with(2);
        Ready.tell(y, 3, "again 5(again 5(again 6(rest 30;)))");
        due("the longest", y.drill(0, 0), 150);
        due("4500 days", y.look(1), 4500);
        due("once more", y.drill(0, 0), 150);
        due("13500", y.drill(0, 0), N);
        due("DAY 9000", y.look(1), 9000);
    }

    private static void drillsOfALostRope() {
        Check.part("A ROPE that is there no more: nothing");
        RopeMind x = Ready.with(5);
        Ready.tell(x, 3, "wet 1; pull 91; tie 0 at 0; untie 0; pull 5; wet 5; rest 5;");
        due("two are done", x.drill(0, 0), 2);
        due("no rest", x.look(1), 0);
        due("the new one is as it came", x.of(1, 3), 1);
        due("nothing is TIED there", x.of(1, 4), 0);
        RopeMind y = Ready.with(5);
        Ready.tell(y, 2, "hold 0 when place=2; hold 999;");
        Ready.tell(y, 3, "pull 1; tie 0 at 1; tie 0 at 2; rest 2; wet 5;");
        due("a ROPE that is shorter goes on", y.drill(0, 0), 4);
        due("DAY 2", y.look(1), 2);
        RopeMind z = Ready.with(5);
        Ready.tell(z, 3, "rest 9; wet 3;");
        z.set(2, 0, 1000);
        z.state(Ready.before(Ready.before(99 << 8)));
        due("lost in the first storm of a rest, which is done", z.drill(0, 0), 1);
        due("all its DAYS", z.look(1), 9);
        due("ROPE 0 is lost", z.of(0, 0), N);
    }

    private static void drillsRestForAll() {
        Check.part("rest: so many DAYS (all ROPES)");
        RopeMind x = Ready.with(2, 2);
        Ready.habit(x, 1, 1, 0, 90);
        x.wet(1, 9);
        Ready.tell(x, 3, "rest 1;");
        due("rest 1", x.drill(0, 0), 1);
        due("94", x.habit(1, 1, 0, 0), 94);
        due("WET 8", x.of(1, 3), 8);
        Ready.tell(x, 3, "rest 30;");
        due("rest 30", x.drill(0, 0), 1);
        due("64", x.habit(1, 1, 0, 0), 64);
        due("DAY 31", x.look(1), 31);
    }

    private static void drillsRefused() {
        Check.part("drill: NONE, and nothing is done, if one can't be");
        RopeMind x = Ready.with(3);
        Ready.tell(x, 3, "tie 0 at 0;");
        for (int rope : new int[] {-1, 1, 7, 8, LOW, HIGH}) {
            due("drill(" + rope + ", 0)", x.drill(rope, 0), N);
        }
        for (int hand : new int[] {-1, 10, LOW, HIGH}) {
            due("drill(0, " + hand + ")", x.drill(0, hand), N);
        }
        due("nothing is TIED", x.of(0, 4), 0);
        due("nothing to undo", x.look(9), 0);
    }

    private static void drillsTieByTheirHand() {
        Check.part("A DRILL that is told to a ROPE by a HAND");
        RopeMind x = Ready.with(3, 3);
        Ready.tell(x, 3, "tie 4 at 2;");
        due("by 9", x.drill(1, 9), 1);
        lineIs(x, 0, 0, 1, 2, 4, 0, 9);
        due("by 0", x.drill(0, 0), 1);
        lineIs(x, 1, 0, 0, 2, 4, 0, 0);
    }
}

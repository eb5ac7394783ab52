/** ==== 3. of the document's terms, with promises 5 to 12, 17 and 21: ties, pulls, breaks, wetting, cuts, splices, sales, days. */
public final class RopeMindEdgesOfActs {
    private static final int N = Ready.N;
    private static final int LOW = Ready.LOW;
    private static final int HIGH = Ready.HIGH;

    private RopeMindEdgesOfActs() { }

    public static void main(String[] args) {
        handsAreTen();
        onlyUntiedPlacesAreTied();
        tyingStopsAt99();
        sinceIsOfTheFirstTie();
        untyingNeedsAKnot();
        wetGoesFromZeroToNine();
        wettingWorksFromZeroAlone();
        wettingStopsAt99();
        wettingHelpsTheCallTiedOrNot();
        forcesGoFromZeroTo99();
        needIsForceAtMost();
        selfTyingStopsAt99();
        theOldestThenTheFirstPlace();
        needIsAskedAsItIsThen();
        callsAreThoseAheadOfThePull();
        strengthBelowForceBreaks();
        itBreaksAtTheLeastThenTheFirst();
        breaksNearTheEnds();
        breaksOfTheShortest();
        breaksWithoutANumber();
        breaksForgetAsCutsDo();
        cutsStayTwoFromTheEnds();
        cutsHalveDownwards();
        cutsWithoutANumber();
        cutsHandOn();
        splicesOf24();
        splicesOfOneRope();
        splicesMarryTheSeam();
        splicesKeepTheGreaterWet();
        salesAreToOthers();
        Check.end();
    }

    private static void due(String call, long got, long want) {
        Check.due(call, got, want);
    }

    private static void due(String call, boolean got, boolean want) {
        Check.due(call, got, want);
    }

    // To TIE, to UNTIE.

    private static void handsAreTen() {
        Check.part("by a HAND (0 .. 9)");
        RopeMind x = Ready.with(3);
        for (int hand : new int[] {-1, 10, LOW, HIGH}) {
            due("tie by " + hand, x.tie(0, 0, 0, hand), false);
            due("drill by " + hand, x.drill(0, hand), N);
        }
        due("nothing is TIED", x.of(0, 4), 0);
        due("no line", x.look(3), 0);
        due("by 0", x.tie(0, 0, 0, 0), true);
        due("by 9", x.tie(0, 1, 0, 9), true);
        due("0's", x.book(0, 5), 0);
        due("9's", x.book(1, 5), 9);
        due("drill by 0", x.drill(0, 0), 0);
        due("drill by 9", x.drill(0, 9), 0);
    }

    private static void onlyUntiedPlacesAreTied() {
        Check.part("To TIE a KNOT at an untied PLACE");
        RopeMind x = Ready.with(3);
        due("untied", x.tie(0, 1, 0, 3), true);
        due("TIED by the same", x.tie(0, 1, 0, 4), false);
        due("TIED by another", x.tie(0, 1, 5, 4), false);
        due("the KNOT stays", x.at(0, 1, 0), 0);
        due("the HABIT stays", x.of(0, 5), 3);
        due("one line", x.look(3), 1);
        due("one to undo", x.look(9), 1);
        x.untie(0, 1);
        due("untied again", x.tie(0, 1, 5, 4), true);
        due("on a ROPE that is not there", x.tie(1, 1, 0, 0), false);
    }

    private static void tyingStopsAt99() {
        Check.part("its HABIT there is TIGHT more (99 at most)");
        int[] from = {95, 96, 97, 98, 99};
        int[] to = {98, 99, 99, 99, 99};
        for (int i = 0; i < from.length; i++) {
            RopeMind x = Ready.with(2);
            Ready.habit(x, 0, 0, 0, from[i]);
            x.tie(0, 0, 0, 0);
            due("3 more than " + from[i], x.habit(0, 0, 0, 0), to[i]);
        }
        RopeMind y = Ready.with(2);
        y.set(0, 0, 1);
        y.tie(0, 0, 0, 0);
        due("TIGHT 1", y.habit(0, 0, 0, 0), 1);
        y.set(0, 1, 9);
        y.tie(0, 1, 1, 0);
        due("TIGHT 9", y.habit(0, 1, 1, 0), 9);
        due("not of another KNOT", y.habit(0, 1, 0, 0), 0);
    }

    private static void sinceIsOfTheFirstTie() {
        Check.part("SINCE this DAY, if it was 0");
        RopeMind x = Ready.with(2);
        x.days(5);
        x.set(0, 0, 2);
        Ready.practise(x, 0, 0, 0, 1);
        due("it was 0", x.habit(0, 0, 0, 1), 5);
        x.days(1);
        Ready.practise(x, 0, 0, 0, 1);
        due("it was 1", x.habit(0, 0, 0, 1), 5);
        x.days(3);
        due("0 again", x.habit(0, 0, 0, 1), N);
        Ready.practise(x, 0, 0, 0, 1);
        due("it was 0 again", x.habit(0, 0, 0, 1), 9);
    }

    private static void untyingNeedsAKnot() {
        Check.part("untie: the KNOT; NONE if none is TIED there");
        RopeMind x = Ready.with(3);
        due("none", x.untie(0, 0), N);
        x.tie(0, 0, 0, 0);
        x.tie(0, 2, 5, 0);
        due("KNOT 0", x.untie(0, 0), 0);
        due("KNOT 5", x.untie(0, 2), 5);
        due("none again", x.untie(0, 2), N);
        due("the HABIT stays", x.habit(0, 2, 5, 0), 3);
        due("no line", x.look(3), 2);
        for (int rope : new int[] {-1, 1, 8, LOW, HIGH}) {
            due("ROPE " + rope, x.untie(rope, 0), N);
        }
    }

    // To WET.

    private static void wetGoesFromZeroToNine() {
        Check.part("A ROPE is WETTED (0 .. 9): true; false if one can't be");
        RopeMind x = Ready.with(2);
        for (int v : new int[] {-1, 10, LOW, HIGH}) {
            due("wet(0, " + v + ")", x.wet(0, v), false);
        }
        due("dry", x.of(0, 3), 0);
        due("9", x.wet(0, 9), true);
        due("9 then", x.of(0, 3), 9);
        due("10", x.wet(0, 10), false);
        due("9 still", x.of(0, 3), 9);
        due("0", x.wet(0, 0), true);
        due("0 then", x.of(0, 3), 0);
        for (int rope : new int[] {-1, 1, 8, LOW, HIGH}) {
            due("ROPE " + rope, x.wet(rope, 1), false);
        }
    }

    private static void wettingWorksFromZeroAlone() {
        Check.part("if it was 0 and is more, of each PLACE the HABIT of its CALL is 5 more");
        RopeMind x = Ready.with(24);
        Ready.practise(x, 0, 0, 2, 1);
        Ready.practise(x, 0, 23, 3, 1);
        x.wet(0, 0);
        due("0 to 0", x.of(0, 5), 6);
        x.wet(0, 1);
        due("0 to 1, the first PLACE", x.habit(0, 0, 2, 0), 8);
        due("0 to 1, the last PLACE", x.habit(0, 23, 3, 0), 8);
        due("nothing else", x.of(0, 5), 16);
        x.wet(0, 9);
        due("1 to 9", x.of(0, 5), 16);
        x.wet(0, 9);
        due("9 to 9", x.of(0, 5), 16);
        x.wet(0, 0);
        due("9 to 0", x.of(0, 5), 16);
        x.wet(0, 9);
        due("0 to 9", x.of(0, 5), 26);
        x.wet(0, 1);
        x.days(1);
        due("dry by a DAY", x.of(0, 3), 0);
        x.wet(0, 1);
        due("0 to 1 again", x.of(0, 5), 34);
    }

    private static void wettingStopsAt99() {
        Check.part("5 more (99 at most)");
        int[] from = {93, 94, 95, 98, 99};
        int[] to = {98, 99, 99, 99, 99};
        for (int i = 0; i < from.length; i++) {
            RopeMind x = Ready.with(2);
            Ready.habit(x, 0, 1, 5, from[i]);
            x.wet(0, 1);
            due("5 more than " + from[i], x.habit(0, 1, 5, 0), to[i]);
        }
    }

    private static void wettingHelpsTheCallTiedOrNot() {
        Check.part("of each PLACE the HABIT of its CALL (TIED or not)");
        RopeMind x = Ready.with(2);
        Ready.habit(x, 0, 0, 4, 7);
        Ready.habit(x, 0, 0, 3, 7);
        Ready.habit(x, 0, 0, 2, 6);
        x.tie(0, 1, 1, 0);
        x.wet(0, 1);
        due("the CALL: the least of the greatest", x.habit(0, 0, 3, 0), 12);
        due("not the other", x.habit(0, 0, 4, 0), 7);
        due("nor the lesser", x.habit(0, 0, 2, 0), 6);
        due("TIED", x.habit(0, 1, 1, 0), 8);
        RopeMind y = Ready.with(2);
        Ready.habit(y, 0, 0, 4, 5);
        y.days(1);
        y.tie(0, 0, 0, 0);
        y.wet(0, 1);
        due("not the KNOT that is TIED, if another calls", y.habit(0, 0, 0, 0), 3);
        due("the other", y.habit(0, 0, 4, 0), 9);
        due("SINCE stays", y.habit(0, 0, 4, 1), 0);
    }

    // To PULL.

    private static void forcesGoFromZeroTo99() {
        Check.part("To PULL a ROPE by a FORCE 0 .. 99");
        RopeMind x = Ready.with(3);
        Ready.tell(x, 0, "tie 0 when place=0; tie 99;");
        Ready.tell(x, 2, "hold 99;");
        Ready.practise(x, 0, 0, 0, 1);
        Ready.practise(x, 0, 1, 0, 1);
        for (int force : new int[] {-1, 100, LOW, HIGH}) {
            due("pull(0, " + force + ")", x.pull(0, force), N);
        }
        due("nothing is TIED", x.of(0, 4), 0);
        due("pull(0, 0)", x.pull(0, 0), 1);
        due("pull(0, 98)", x.pull(0, 98), 0);
        due("pull(0, 99)", x.pull(0, 99), 1);
        for (int rope : new int[] {-1, 1, 8, LOW, HIGH}) {
            due("ROPE " + rope, x.pull(rope, 0), N);
        }
    }

    private static void needIsForceAtMost() {
        Check.part("if NEED of that KNOT is FORCE at most, it ties itself");
        for (int force : new int[] {0, 1, 50, 98, 99}) {
            for (int more = 0; more <= 1; more++) {
                RopeMind x = Ready.with(2);
                Ready.tell(x, 0, "tie " + (force + more) + ";");
                Ready.tell(x, 2, "hold 99;");
                Ready.practise(x, 0, 1, 4, 1);
                due("by " + force + ", NEED " + (force + more), x.pull(0, force), 1 - more);
                due("TIED", x.at(0, 1, 0), more == 0 ? 4 : N);
                due("HABIT 1 more", x.habit(0, 1, 4, 0), more == 0 ? 4 : 3);
                due("a line of it", x.look(3), more == 0 ? 2 : 1);
            }
        }
    }

    private static void selfTyingStopsAt99() {
        Check.part("it ties itself: TIED, HABIT 1 more (99 at most)");
        for (int from = 97; from <= 99; from++) {
            RopeMind x = Ready.with(2);
            Ready.habit(x, 0, 0, 0, from);
            x.days(1);
            x.tie(0, 0, 0, 0);
            x.untie(0, 0);
            Ready.tell(x, 1, "forget " + (99 - from) + ";");
            x.days(1);
            due("made ready", x.habit(0, 0, 0, 0), from);
            due("pull(0, 3)", x.pull(0, 3), 1);
            due("1 more than " + from, x.habit(0, 0, 0, 0), Math.min(99, from + 1));
            due("SINCE stays", x.habit(0, 0, 0, 1), 0);
        }
    }

    private static void theOldestThenTheFirstPlace() {
        Check.part("PLACES by SINCE of that, of several by PLACE");
        RopeMind x = Ready.with(6);
        Ready.tell(x, 1, "forget 0;");
        Ready.practise(x, 0, 5, 0, 1);
        Ready.practise(x, 0, 3, 1, 1);
        x.days(1);
        Ready.practise(x, 0, 4, 2, 1);
        Ready.practise(x, 0, 0, 3, 1);
        x.days(1);
        Ready.practise(x, 0, 1, 4, 1);
        x.tie(0, 2, 5, 0);
        Ready.tell(x, 2, "hold 99;");
        int line = x.look(3);
        due("all five", x.pull(0, 99), 5);
        int[] places = {3, 5, 0, 4, 1};
        int[] knots = {1, 0, 3, 2, 4};
        for (int i = 0; i < 5; i++) {
            due("PLACE " + i, x.book(line + i, 2), places[i]);
            due("KNOT " + i, x.book(line + i, 3), knots[i]);
            due("by itself", x.book(line + i, 4), 1);
        }
        due("no more lines", x.look(3), line + 5);
    }

    private static void needIsAskedAsItIsThen() {
        Check.part("NEED of that KNOT (by all that is then)");
        RopeMind x = Ready.with(5);
        Ready.tell(x, 0, "tie 10 when ties=0; tie 50 when ties=1; tie 11 when ties=2; tie 60;");
        for (int place = 0; place < 4; place++) {
            Ready.practise(x, 0, place, 0, 1);
        }
        due("one by 49: the others need 50 then", x.would(0, 49, 0), 1);
        due("three by 50", x.would(0, 50, 0), 3);
        due("three by 59", x.would(0, 59, 0), 3);
        due("four by 60", x.would(0, 60, 0), 4);
        RopeMind y = Ready.with(5);
        Ready.tell(y, 0, "tie 40 when place=0; tie 40-beside*20;");
        y.tie(0, 3, 0, 0);
        Ready.practise(y, 0, 2, 0, 1);
        Ready.practise(y, 0, 1, 0, 1);
        due("PLACE 1 is asked ahead of 2, with none beside it", y.would(0, 20, 0), 1);
        due("2 is the first", y.would(0, 20, 1), 2);
        Ready.practise(y, 0, 2, 4, 2);
        due("its KNOT", y.would(0, 20, 2), 4);
        due("pull(0, 20)", y.pull(0, 20), 1);
        due("its line", y.book(y.look(3) - 1, 2), 2);
        due("the KNOT of its line", y.book(y.look(3) - 1, 3), 4);
        due("PLACE 2", y.at(0, 2, 0), 4);
        due("not PLACE 1", y.at(0, 1, 0), N);
        due("it is by the next pull", y.pull(0, 20), 1);
    }

    private static void callsAreThoseAheadOfThePull() {
        Check.part("PLACES that are untied and have a CALL ahead of it");
        RopeMind x = Ready.with(4);
        Ready.tell(x, 0, "tie 0;");
        due("none has a CALL", x.pull(0, 50), 0);
        x.tie(0, 0, 1, 0);
        Ready.habit(x, 0, 1, 2, 5);
        Ready.habit(x, 0, 1, 3, 6);
        due("one that is TIED does not count", x.pull(0, 0), 1);
        due("the CALL", x.at(0, 1, 0), 3);
        due("its HABIT", x.habit(0, 1, 3, 0), 7);
        due("the other's stays", x.habit(0, 1, 2, 0), 5);
        due("nor one that was TIED ahead", x.habit(0, 0, 1, 0), 3);
        due("none is left", x.pull(0, 0), 0);
    }

    private static void strengthBelowForceBreaks() {
        Check.part("if STRENGTH of some PLACE is below FORCE, it BREAKS");
        for (int force : new int[] {1, 50, 99}) {
            RopeMind x = Ready.with(6);
            Ready.tell(x, 2, "hold " + force + " when place=3; hold 999;");
            x.pull(0, force);
            due("STRENGTH " + force + " by " + force, x.look(0), 1);
            Ready.tell(x, 2, "hold " + (force - 1) + " when place=3; hold 999;");
            x.pull(0, force);
            due("STRENGTH " + (force - 1) + " by " + force, x.look(0), 3);
        }
        RopeMind y = Ready.with(6);
        Ready.tell(y, 2, "hold 0;");
        y.pull(0, 0);
        due("nothing is below 0", y.look(0), 1);
        RopeMind z = Ready.with(6);
        z.pull(0, 90);
        due("90 by 90", z.look(0), 1);
        z.pull(0, 91);
        due("90 by 91", z.look(0), 2);
    }

    private static void itBreaksAtTheLeastThenTheFirst() {
        Check.part("it BREAKS at the one with the least (of several the first)");
        RopeMind x = Ready.with(8);
        Ready.tell(x, 2, "hold 10 when place=2; hold 9 when place=4; hold 9 when place=5; hold 50;");
        x.pull(0, 11);
        due("PLACE 4", x.of(0, 0), 4);
        due("the rest", x.of(1, 0), 4);
        due("its line", x.book(0, 2), 4);
        due("once alone", x.look(3), 1);
        x.pull(0, 11);
        due("then PLACE 2", x.of(0, 0), 2);
    }

    /** Pulls a rope that is weak at one place alone. */
    private static RopeMind brokenAt(int place, int... lengths) {
        RopeMind x = Ready.with(lengths);
        Ready.tell(x, 2, "hold 5 when place=" + place + "; hold 999;");
        x.pull(0, 6);
        due("a line of it", x.look(3), 1);
        due("how", x.book(0, 4), 2);
        due("its PLACE", x.book(0, 2), place);
        due("its ROPE", x.book(0, 1), 0);
        due("no HAND", x.book(0, 5), N);
        return x;
    }

    private static void breaksNearTheEnds() {
        Check.part("as if CUT there, but at any PLACE: what is shorter than 2 then is lost");
        RopeMind zero = brokenAt(0, 5);
        due("at 0: the new one alone", zero.look(0), 2);
        due("all of it", zero.of(1, 0), 5);
        due("what", zero.book(0, 3), 1);
        RopeMind one = brokenAt(1, 5);
        due("at 1: the new one alone", one.look(0), 2);
        due("4", one.of(1, 0), 4);
        RopeMind two = brokenAt(2, 5);
        due("at 2: both", two.look(0), 3);
        due("2", two.of(0, 0), 2);
        due("3", two.of(1, 0), 3);
        RopeMind three = brokenAt(3, 5);
        due("at LENGTH - 2: both", three.look(0), 3);
        due("3", three.of(0, 0), 3);
        due("2", three.of(1, 0), 2);
        RopeMind four = brokenAt(4, 5);
        due("at LENGTH - 1: the old one alone", four.look(0), 1);
        due("4", four.of(0, 0), 4);
        due("what (NONE: lost)", four.book(0, 3), N);
    }

    private static void breaksOfTheShortest() {
        Check.part("what is shorter than 2 then is lost");
        RopeMind first = brokenAt(0, 2);
        due("2 at 0", first.look(0), 2);
        due("2", first.of(1, 0), 2);
        RopeMind last = brokenAt(1, 2);
        due("2 at 1: nothing is left", last.look(0), 0);
        due("what", last.book(0, 3), N);
        due("the number is free", last.rope(2, 0), 0);
        RopeMind middle = brokenAt(1, 3);
        due("3 at 1", middle.look(0), 2);
        due("2", middle.of(1, 0), 2);
        RopeMind end = brokenAt(2, 3);
        due("3 at 2", end.look(0), 1);
        due("2", end.of(0, 0), 2);
        RopeMind longest = brokenAt(23, 24);
        due("24 at 23", longest.look(0), 1);
        due("23", longest.of(0, 0), 23);
    }

    private static void breaksWithoutANumber() {
        Check.part("without a number for it: lost; at PLACE 0 the ROPE is lost");
        RopeMind seven = brokenAt(4, 8, 2, 2, 2, 2, 2, 2);
        due("the eighth number", seven.look(0), 255);
        due("what", seven.book(0, 3), 7);
        RopeMind eight = brokenAt(4, 8, 2, 2, 2, 2, 2, 2, 2);
        due("no number", eight.look(0), 255);
        due("what", eight.book(0, 3), N);
        due("4", eight.of(0, 0), 4);
        RopeMind zero = brokenAt(0, 8, 4, 4, 4, 4, 4, 4, 4);
        due("all of it is lost", zero.look(0), 254);
        due("what", zero.book(0, 3), N);
        RopeMind one = brokenAt(1, 8, 4, 4, 4, 4, 4, 4, 4);
        due("all of it is lost", one.look(0), 254);
    }

    private static void breaksForgetAsCutsDo() {
        Check.part("it BREAKS: as if CUT there");
        RopeMind x = Ready.with(6);
        Ready.tell(x, 2, "hold 5 when place=3; hold 999;");
        for (int place = 0; place < 6; place++) {
            Ready.habit(x, 0, place, 0, 7);
        }
        x.tie(0, 3, 4, 0);
        x.wet(0, 3);
        x.sell(0, 8);
        due("nothing ties itself", x.pull(0, 6), 0);
        due("PLACE 1", x.habit(0, 1, 0, 0), 12);
        due("PLACE 2: half", x.habit(0, 2, 0, 0), 6);
        due("PLACE 3: none", x.habit(1, 0, 0, 0), 0);
        due("PLACE 3: none of its KNOT", x.habit(1, 0, 4, 0), 0);
        due("it is TIED still", x.at(1, 0, 0), 4);
        due("PLACE 4", x.habit(1, 1, 0, 0), 12);
        due("OWNER", x.of(1, 1), 8);
        due("WET", x.of(1, 3), 3);
        RopeMind y = Ready.with(3);
        Ready.tell(y, 2, "hold 5 when place=0; hold 999;");
        for (int place = 0; place < 3; place++) {
            Ready.habit(y, 0, place, 0, 7);
        }
        y.pull(0, 6);
        due("at PLACE 0: none", y.habit(1, 0, 0, 0), 0);
        due("PLACE 1 stays", y.habit(1, 1, 0, 0), 7);
        RopeMind z = Ready.with(3);
        Ready.tell(z, 2, "hold 5 when place=2; hold 999;");
        Ready.habit(z, 0, 1, 0, 7);
        z.pull(0, 6);
        due("half, though the other part is lost", z.habit(0, 1, 0, 0), 3);
    }

    // To CUT.

    private static void cutsStayTwoFromTheEnds() {
        Check.part("To CUT a ROPE at a PLACE p (2 .. LENGTH - 2)");
        for (int length = 2; length <= 24; length++) {
            for (int p : new int[] {0, 1, 2, length - 2, length - 1, length, -1, LOW, HIGH}) {
                RopeMind x = Ready.with(length);
                boolean can = p >= 2 && p <= length - 2;
                due("cut at " + p + " of " + length, x.cut(0, p), can ? 1 : N);
                due("LENGTH", x.of(0, 0), can ? p : length);
                due("of the new one", x.of(1, 0), can ? length - p : N);
                due("lines", x.look(3), can ? 1 : 0);
                due("to undo", x.look(9), can ? 1 : 0);
            }
        }
        for (int rope : new int[] {-1, 1, 8, LOW, HIGH}) {
            due("ROPE " + rope, Ready.with(9).cut(rope, 4), N);
        }
    }

    private static void cutsHalveDownwards() {
        Check.part("at p - 1 all HABITS are half, at p none are (what is TIED stays)");
        RopeMind x = Ready.with(6);
        int[] habits = {1, 2, 3, 98, 99, 0};
        for (int place = 1; place <= 4; place++) {
            for (int k = 0; k < 6; k++) {
                Ready.habit(x, 0, place, k, habits[k]);
            }
        }
        x.tie(0, 2, 5, 0);
        x.tie(0, 3, 5, 0);
        x.cut(0, 3);
        int[] half = {0, 1, 1, 49, 49, 1};
        for (int k = 0; k < 6; k++) {
            due("p - 2", x.habit(0, 1, k, 0), habits[k]);
            due("p - 1", x.habit(0, 2, k, 0), half[k]);
            due("p", x.habit(1, 0, k, 0), 0);
            due("p + 1", x.habit(1, 1, k, 0), habits[k]);
            due("no SINCE at p", x.habit(1, 0, k, 1), N);
        }
        due("SINCE of a half of 1", x.habit(0, 2, 0, 1), N);
        due("SINCE of a half of 2", x.habit(0, 2, 1, 1), 0);
        due("TIED at p - 1", x.at(0, 2, 0), 5);
        due("TIED at p", x.at(1, 0, 0), 5);
    }

    private static void cutsWithoutANumber() {
        Check.part("without a number for it: lost; -2 if it is lost");
        RopeMind x = Ready.with(8, 2, 2, 2, 2, 2, 2);
        due("the eighth number", x.cut(0, 6), 7);
        due("lost", x.cut(0, 3), -2);
        due("3", x.of(0, 0), 3);
        due("all eight are there", x.look(0), 255);
        due("what (the new one)", x.book(0, 3), 7);
        due("what (NONE: lost)", x.book(1, 3), N);
        due("undo() brings it back", x.undo(), true);
        due("6", x.of(0, 0), 6);
    }

    private static void cutsHandOn() {
        Check.part("PLACES from p on are a new ROPE (OWNER, BORN, WET as its)");
        RopeMind x = Ready.onDay(7);
        x.rope(24, 9);
        x.wet(1, 9);
        x.days(1);
        x.tie(1, 23, 5, 0);
        due("the last cut there is", x.cut(1, 22), 2);
        due("LENGTH", x.of(2, 0), 2);
        due("OWNER", x.of(2, 1), 9);
        due("BORN", x.of(2, 2), 7);
        due("WET", x.of(2, 3), 8);
        due("the last PLACE", x.at(2, 1, 0), 5);
        due("its HABIT", x.habit(2, 1, 5, 0), 3);
        due("its SINCE", x.habit(2, 1, 5, 1), 8);
        due("there are no more", x.at(2, 2, 0), N - 1);
        due("OWNER of the old one", x.of(1, 1), 9);
        due("WET of the old one", x.of(1, 3), 8);
    }

    // To SPLICE.

    private static void splicesOf24() {
        Check.part("To SPLICE two ROPES, together 24 at most");
        RopeMind x = Ready.with(12, 13, 12, 22, 2);
        due("25", x.splice(0, 1), N);
        due("25, the other way", x.splice(1, 0), N);
        due("all are there", x.look(0), 31);
        due("24", x.splice(0, 2), 24);
        due("24 by 22 and 2", x.splice(4, 3), 24);
        due("the second ones are not there", x.look(0), 19);
        due("26", x.splice(0, 4), N);
        x.tie(4, 23, 1, 0);
        due("the last PLACE", x.at(4, 23, 0), 1);
        due("4", Ready.with(2, 2).splice(1, 0), 4);
    }

    private static void splicesOfOneRope() {
        Check.part("splice: NONE, and nothing is done, if they can't be");
        RopeMind x = Ready.with(3, 3);
        due("one and the same", x.splice(0, 0), N);
        due("one and the same", x.splice(1, 1), N);
        for (int rope : new int[] {-1, 2, 7, 8, LOW, HIGH}) {
            due("splice(0, " + rope + ")", x.splice(0, rope), N);
            due("splice(" + rope + ", 0)", x.splice(rope, 0), N);
        }
        due("both are there", x.look(0), 3);
        due("3", x.of(0, 0), 3);
        due("no line", x.look(3), 0);
        due("nothing to undo", x.look(9), 0);
    }

    private static void splicesMarryTheSeam() {
        Check.part("HABITS are each the greater of both (SINCE the lesser, of those above 0)");
        RopeMind x = Ready.with(3, 3);
        Ready.tell(x, 1, "forget 0;");
        Ready.habit(x, 0, 2, 0, 5);
        Ready.habit(x, 1, 0, 1, 5);
        Ready.habit(x, 0, 2, 4, 99);
        Ready.habit(x, 1, 0, 5, 1);
        x.days(1);
        Ready.habit(x, 0, 2, 5, 2);
        Ready.habit(x, 1, 0, 0, 6);
        Ready.habit(x, 0, 2, 1, 6);
        Ready.habit(x, 0, 2, 2, 1);
        Ready.habit(x, 1, 0, 3, 1);
        Ready.habit(x, 1, 0, 4, 98);
        Ready.habit(x, 0, 1, 5, 9);
        Ready.habit(x, 1, 1, 5, 8);
        Ready.habit(x, 1, 1, 0, 9);
        x.tie(1, 0, 5, 0);
        x.undo();
        x.splice(0, 1);
        int[] habits = {6, 6, 1, 1, 99, 2};
        int[] since = {0, 0, 1, 1, 0, 0};
        for (int k = 0; k < 6; k++) {
            due("the last of the first, KNOT " + k, x.habit(0, 2, k, 0), habits[k]);
            due("the first of the second, KNOT " + k, x.habit(0, 3, k, 0), habits[k]);
            due("SINCE", x.habit(0, 2, k, 1), since[k]);
            due("SINCE", x.habit(0, 3, k, 1), since[k]);
        }
        due("the one before is as it was", x.habit(0, 1, 5, 0), 9);
        due("the one behind too", x.habit(0, 4, 5, 0), 8);
        due("its first KNOT too", x.habit(0, 4, 0, 0), 9);
        RopeMind y = Ready.with(2, 2);
        y.tie(0, 1, 2, 0);
        y.tie(1, 0, 3, 0);
        y.splice(1, 0);
        due("0 of both stays 0", y.habit(1, 1, 5, 0), 0);
        due("without a SINCE", y.habit(1, 2, 5, 1), N);
        due("TIED stays", y.at(1, 3, 0), 2);
        due("TIED stays", y.at(1, 0, 0), 3);
        due("nothing is TIED at the seam", y.at(1, 1, 0), N);
    }

    private static void splicesKeepTheGreaterWet() {
        Check.part("which is the longer one then (OWNER, BORN its; WET the greater)");
        RopeMind x = new RopeMind();
        x.rope(3, 0);
        x.days(1);
        x.rope(3, 9);
        x.wet(0, 9);
        x.wet(1, 8);
        due("6", x.splice(1, 0), 6);
        due("OWNER", x.of(1, 1), 9);
        due("BORN", x.of(1, 2), 1);
        due("the greater of the second", x.of(1, 3), 9);
        x.rope(2, 4);
        due("8", x.splice(1, 0), 8);
        due("the greater of the first", x.of(1, 3), 9);
        x.rope(2, 4);
        Ready.practise(x, 0, 0, 0, 1);
        x.splice(0, 1);
        due("wet by it, which is no WETTING", x.habit(0, 0, 0, 0), 3);
        due("WET", x.of(0, 3), 9);
        int line = x.look(3) - 1;
        due("PLACE: LENGTH the first one had", x.book(line, 2), 2);
        due("what: the second one", x.book(line, 3), 1);
    }

    // To SELL.

    private static void salesAreToOthers() {
        Check.part("sell: true; false if one can't be (to its OWNER)");
        RopeMind x = Ready.with(2);
        for (int owner : new int[] {-1, 10, LOW, HIGH, 1}) {
            due("sell(0, " + owner + ")", x.sell(0, owner), false);
        }
        due("1 still", x.of(0, 1), 1);
        due("to 0", x.sell(0, 0), true);
        due("to 0 again", x.sell(0, 0), false);
        due("to 9", x.sell(0, 9), true);
        due("9", x.of(0, 1), 9);
        due("back to 1", x.sell(0, 1), true);
        for (int rope : new int[] {-1, 1, 8, LOW, HIGH}) {
            due("ROPE " + rope, x.sell(rope, 5), false);
        }
        due("three lines", x.look(3), 3);
        due("PLACE: NONE", x.book(0, 2), N);
        due("what: OWNER", x.book(0, 3), 0);
        due("what: OWNER", x.book(1, 3), 9);
    }
}

/** ==== 4. of the document's terms, with promises 22 to 34: what is answered in thought, at its bounds. */
public final class RopeMindEdgesOfThought {
    private static final int N = Ready.N;
    private static final int LOW = Ready.LOW;
    private static final int HIGH = Ready.HIGH;

    private RopeMindEdgesOfThought() { }

    public static void main(String[] args) {
        wouldAsksFourThings();
        wouldTieNone();
        wouldTieAll();
        wouldBreak();
        thoughtsDrawNothing();
        stirsFromZeroTo99();
        snapsFromOneTo99();
        leastAsksTwoThings();
        trainFromZeroTo30();
        trainStopsAt99();
        trainNeedsAnUntiedPlace();
        trainHasToBeFirst();
        toldAreSix();
        toldForcesAndKnots();
        fitsFromOneTo99();
        fitsAtTheForce();
        fitsOfThatPlaceAlone();
        fitsNeedAnUntiedPlace();
        nextIsTheLeastOfSeveral();
        nextNeedsTwo();
        nextAtTheEnds();
        weakIsTheFirstOfTheLeast();
        weakAsksTwoThings();
        laddersOfThatLengthAtLeast();
        laddersOfTheGreatestLeast();
        ordersAreSeven();
        yardOfNothing();
        yardAtTheLength();
        yardOfTheFewest();
        yardTakesTheFirstWay();
        yardAsksForOrders();
        movesAreTwelveAtMost();
        movesOfSevenLetters();
        movesOneByOne();
        movesOfFourShapes();
        marksAtTheirEnds();
        unlikeByEitherMark();
        shapeAsksForLetters();
        whoseIsTheLatest();
        whoseByNumbersAsTheyWere();
        ownersAreCounted();
        Check.end();
    }

    private static void due(String call, long got, long want) {
        Check.due(call, got, want);
    }

    // WOULD, STIRS, SNAPS.

    private static void wouldAsksFourThings() {
        Check.part("would: NONE - 1 if one can't be, or another what");
        RopeMind x = Ready.with(3);
        for (int what : new int[] {-1, 4, LOW, HIGH}) {
            due("would(0, 0, " + what + ")", x.would(0, 0, what), N - 1);
        }
        for (int what = 0; what < 4; what++) {
            for (int force : new int[] {-1, 100, LOW, HIGH}) {
                due("would(0, " + force + ", " + what + ")", x.would(0, force, what), N - 1);
            }
            for (int rope : new int[] {-1, 1, 8, LOW, HIGH}) {
                due("would(" + rope + ", 0, " + what + ")", x.would(rope, 0, what), N - 1);
            }
        }
        due("would(0, 0, 0)", x.would(0, 0, 0), 0);
        due("would(0, 99, 0)", x.would(0, 99, 0), 0);
        due("would(0, 99, 3)", x.would(0, 99, 3), 0);
    }

    private static void wouldTieNone() {
        Check.part("would: the PLACE, the KNOT of the first (NONE), where it BREAKS (NONE)");
        RopeMind x = Ready.with(3);
        Ready.habit(x, 0, 2, 5, 40);
        int[] none = {0, N, N, N};
        int[] one = {1, 2, 5, N};
        for (int what = 0; what < 4; what++) {
            due("by 59, " + what, x.would(0, 59, what), none[what]);
            due("by 60, " + what, x.would(0, 60, what), one[what]);
        }
        x.tie(0, 2, 0, 0);
        for (int what = 0; what < 4; what++) {
            due("TIED, " + what, x.would(0, 60, what), none[what]);
        }
    }

    private static void wouldTieAll() {
        Check.part("would: how many tie themselves");
        RopeMind x = Ready.with(24);
        Ready.tell(x, 0, "tie 0;");
        Ready.tell(x, 2, "hold 999;");
        for (int place = 23; place >= 0; place--) {
            Ready.practise(x, 0, place, place % 6, 1);
        }
        due("24", x.would(0, 0, 0), 24);
        due("PLACE 0", x.would(0, 0, 1), 0);
        due("KNOT 0", x.would(0, 0, 2), 0);
        due("nothing of it stays", x.of(0, 4), 0);
        due("nothing of HABITS", x.of(0, 5), 72);
        due("no line", x.look(3), 24);
    }

    private static void wouldBreak() {
        Check.part("would: where it BREAKS (the PLACE; NONE)");
        RopeMind x = Ready.with(24);
        Ready.tell(x, 2, "hold 50 when place=23; hold 51;");
        due("50 by 50", x.would(0, 50, 3), N);
        due("50 by 51", x.would(0, 51, 3), 23);
        due("the least still", x.would(0, 99, 3), 23);
        Ready.tell(x, 2, "hold 50;");
        due("of several the first", x.would(0, 51, 3), 0);
        Ready.tell(x, 2, "hold 0 when tied=1; hold 99;");
        Ready.tell(x, 0, "tie 7;");
        Ready.practise(x, 0, 12, 0, 1);
        due("where it did not tie itself", x.would(0, 6, 3), N);
        due("where it tied itself", x.would(0, 7, 3), 12);
        due("nothing of it stays", x.look(0), 1);
    }

    private static void thoughtsDrawNothing() {
        Check.part("IN THOUGHT (nothing of it stays; no DRAWS, no STORM)");
        RopeMind x = Ready.with(6);
        Ready.practise(x, 0, 1, 1, 2);
        x.set(2, 0, 1000);
        x.state(77);
        x.would(0, 99, 0);
        x.least(0, 0);
        x.least(0, 1);
        x.train(0, 1, 1, 50);
        x.fits(0, 1, 3);
        x.weak(0, 0);
        x.ladder(2);
        x.yard(0);
        x.moves(0, 1);
        due("STATE", x.look(4), 77);
        due("DAY", x.look(1), 0);
        due("the ROPE", x.look(0), 1);
        due("HABITS", x.of(0, 5), 6);
        due("KNOTS", x.of(0, 4), 0);
        due("lines", x.look(3), 2);
    }

    private static void stirsFromZeroTo99() {
        Check.part("STIRS: the least FORCE 0 .. 99 by which something ties itself; NONE if by none");
        RopeMind x = Ready.with(3);
        due("without a HABIT", x.least(0, 0), N);
        Ready.practise(x, 0, 2, 0, 1);
        int[] needs = {0, 1, 98, 99, 100, 999};
        int[] want = {0, 1, 98, 99, N, N};
        for (int i = 0; i < needs.length; i++) {
            Ready.tell(x, 0, "tie " + needs[i] + ";");
            due("NEED " + needs[i], x.least(0, 0), want[i]);
        }
        x.tie(0, 2, 0, 0);
        Ready.tell(x, 0, "tie 0;");
        due("TIED", x.least(0, 0), N);
    }

    private static void snapsFromOneTo99() {
        Check.part("SNAPS: by which it BREAKS; NONE if by none");
        RopeMind x = Ready.with(3);
        int[] strengths = {0, 1, 97, 98, 99, 100, 999};
        int[] want = {1, 2, 98, 99, N, N, N};
        for (int i = 0; i < strengths.length; i++) {
            Ready.tell(x, 2, "hold " + strengths[i] + " when place=2; hold 999;");
            due("STRENGTH " + strengths[i], x.least(0, 1), want[i]);
        }
        Ready.tell(x, 0, "tie 20;");
        Ready.tell(x, 2, "hold 10 when tied=1; hold 999;");
        Ready.practise(x, 0, 0, 0, 1);
        due("by what ties itself by it", x.least(0, 1), 20);
        Ready.tell(x, 2, "hold 20 when tied=1; hold 999;");
        due("20 by 21", x.least(0, 1), 21);
    }

    private static void leastAsksTwoThings() {
        Check.part("least: NONE if there is none such, or another what");
        RopeMind x = Ready.with(3);
        for (int what : new int[] {-1, 2, LOW, HIGH}) {
            due("least(0, " + what + ")", x.least(0, what), N);
        }
        for (int rope : new int[] {-1, 1, 8, LOW, HIGH}) {
            due("least(" + rope + ", 1)", x.least(rope, 1), N);
        }
        due("least(0, 1)", x.least(0, 1), 91);
    }

    // TRAIN.

    private static void trainFromZeroTo30() {
        Check.part("TRAIN: how often (0 .. 30); NONE if 30 are not enough");
        RopeMind x = Ready.with(2);
        due("3 each: 97 by once", x.train(0, 0, 0, 97), 1);
        due("98 by once, too", x.train(0, 0, 0, 98), 1);
        due("11 by 30", x.train(0, 0, 0, 11), 30);
        due("10 by 30", x.train(0, 0, 0, 10), 30);
        due("9 would be 31", x.train(0, 0, 0, 9), N);
        Ready.habit(x, 0, 0, 0, 3);
        due("0, for it does", x.train(0, 0, 0, 97), 0);
        due("once more", x.train(0, 0, 0, 96), 1);
        due("30 more", x.train(0, 0, 0, 7), 30);
        due("not by 30 more", x.train(0, 0, 0, 6), N);
        x.set(0, 0, 1);
        due("TIGHT 1", x.train(0, 0, 0, 67), 30);
        due("TIGHT 1, one less", x.train(0, 0, 0, 66), N);
        due("nothing of it stays", x.habit(0, 0, 0, 0), 3);
        RopeMind y = Ready.with(2);
        Ready.tell(y, 0, "tie 0;");
        due("by FORCE 0, at a PLACE without a HABIT", y.train(0, 1, 3, 0), 1);
    }

    private static void trainStopsAt99() {
        Check.part("TRAIN: it must be TIED there (HABIT 99 at most)");
        RopeMind x = Ready.with(2);
        x.set(0, 0, 9);
        due("99 by eleven", x.train(0, 0, 0, 1), 11);
        due("90 by ten", x.train(0, 0, 0, 10), 10);
        due("100 never", x.train(0, 0, 0, 0), N);
    }

    private static void trainNeedsAnUntiedPlace() {
        Check.part("train: NONE if one can't be");
        RopeMind x = Ready.with(3);
        x.tie(0, 1, 0, 0);
        due("TIED", x.train(0, 1, 0, 99), N);
        for (int v : new int[] {-1, 3, LOW, HIGH}) {
            due("PLACE " + v, x.train(0, v, 0, 99), N);
        }
        for (int v : new int[] {-1, 6, LOW, HIGH}) {
            due("KNOT " + v, x.train(0, 0, v, 99), N);
        }
        for (int v : new int[] {-1, 100, LOW, HIGH}) {
            due("FORCE " + v, x.train(0, 0, 0, v), N);
        }
        for (int v : new int[] {-1, 1, 8, LOW, HIGH}) {
            due("ROPE " + v, x.train(v, 0, 0, 99), N);
        }
        due("the last PLACE, the last KNOT, the last FORCE", x.train(0, 2, 5, 99), 1);
        due("the first of each", x.train(0, 0, 0, 50), 17);
    }

    private static void trainHasToBeFirst() {
        Check.part("TRAIN: the first that ties itself is that KNOT there, today");
        RopeMind x = Ready.with(4);
        Ready.practise(x, 0, 0, 1, 5);
        due("an earlier PLACE goes first", x.train(0, 2, 2, 85), N);
        due("where it does not tie itself", x.train(0, 2, 2, 84), 6);
        Ready.practise(x, 0, 3, 1, 5);
        due("a later PLACE does not", x.train(0, 2, 2, 84), 6);
        due("another KNOT there has to be less", x.train(0, 3, 4, 83), 6);
        due("or as much, and greater", x.train(0, 3, 0, 84), 6);
        x.days(1);
        due("an older KNOT there calls", x.train(0, 3, 0, 10), N);
        RopeMind y = Ready.with(4);
        Ready.practise(y, 0, 1, 1, 5);
        due("that PLACE, but another KNOT", y.train(0, 1, 4, 85), 6);
        due("that KNOT, but another PLACE", y.train(0, 2, 1, 85), N);
        due("that KNOT there", y.train(0, 1, 1, 85), 0);
        RopeMind z = Ready.with(4);
        Ready.tell(z, 0, "tie 0;");
        Ready.practise(z, 0, 1, 2, 1);
        due("it would", z.would(0, 50, 1), 1);
        z.days(3);
        due("once more, for it is forgotten", z.train(0, 1, 2, 50), 1);
    }

    // TOLD, FITS, NEXT.

    private static void toldAreSix() {
        Check.part("TOLD pulls: up to 6 (none at first); NONE if there are six");
        RopeMind x = new RopeMind();
        due("none at first", x.look(10), 0);
        for (int i = 1; i <= 6; i++) {
            due("told", x.told(50, 1), i);
        }
        due("a seventh", x.told(50, 1), N);
        due("six", x.look(10), 6);
        due("force NONE: none is", x.told(N, 1), 0);
        due("none", x.look(10), 0);
        due("none again", x.told(N, 1), 0);
        due("one", x.told(50, 1), 1);
        RopeMind y = Ready.with(2);
        for (int i = 0; i < 5; i++) {
            y.told(50, 1);
        }
        y.told(49, N);
        due("the sixth counts", y.fits(0, 0, 0), 1);
        y.told(48, 1);
        due("the seventh does not", y.fits(0, 0, 0), 1);
        y.told(N, 0);
        due("none counts", y.fits(0, 0, 0), 594);
    }

    private static void toldForcesAndKnots() {
        Check.part("told: (FORCE, KNOT or NONE); NONE if one can't be");
        RopeMind x = new RopeMind();
        for (int force : new int[] {-2, 100, LOW, HIGH}) {
            due("told(" + force + ", 0)", x.told(force, 0), N);
        }
        for (int knot : new int[] {-2, 6, LOW, HIGH}) {
            due("told(0, " + knot + ")", x.told(0, knot), N);
        }
        due("none is", x.look(10), 0);
        due("told(0, NONE)", x.told(0, N), 1);
        due("told(99, 5)", x.told(99, 5), 2);
        due("told(0, 0)", x.told(0, 0), 3);
        due("the KNOT is not asked", x.told(N, 6), 0);
        due("nor so", x.told(N, LOW), 0);
    }

    private static void fitsFromOneTo99() {
        Check.part("FITS: one KNOT k, HABIT v (1 .. 99)");
        RopeMind x = Ready.with(2);
        due("all", x.fits(0, 0, 0), 594);
        due("the first k", x.fits(0, 0, 1), 0);
        due("the first v", x.fits(0, 0, 2), 1);
        x.told(1, 5);
        due("HABIT 99", x.fits(0, 0, 0), 1);
        due("k", x.fits(0, 0, 1), 5);
        due("v", x.fits(0, 0, 2), 99);
        x.told(N, 0);
        x.told(98, N);
        due("HABIT 1", x.fits(0, 0, 0), 6);
        due("v", x.fits(0, 0, 2), 1);
        x.told(N, 0);
        x.told(0, 5);
        due("HABIT 100 is none", x.fits(0, 0, 0), 0);
        due("no k", x.fits(0, 0, 1), N);
        due("no v", x.fits(0, 0, 2), N);
        x.told(N, 0);
        x.told(99, N);
        due("HABIT 0 is none", x.fits(0, 0, 0), 0);
    }

    private static void fitsAtTheForce() {
        Check.part("FITS: PULLED by each FORCE told (NEED at most FORCE) it would do what was told");
        RopeMind x = Ready.with(2);
        Ready.tell(x, 0, "tie habit;");
        x.told(40, 2);
        due("NEED 1 .. 40", x.fits(0, 0, 0), 40);
        x.told(39, N);
        due("NEED 40 alone", x.fits(0, 0, 0), 1);
        due("v 40", x.fits(0, 0, 2), 40);
        x.told(40, 3);
        due("two KNOTS by one FORCE", x.fits(0, 0, 0), 0);
        x.told(N, 0);
        x.told(40, N);
        due("none by 40: NEED 41 .. 99 of each", x.fits(0, 0, 0), 354);
    }

    private static void fitsOfThatPlaceAlone() {
        Check.part("FITS: SINCE this DAY, none else there, that PLACE alone");
        RopeMind x = Ready.with(4);
        Ready.habit(x, 0, 1, 3, 50);
        Ready.habit(x, 0, 0, 3, 99);
        x.days(3);
        x.told(50, 2);
        x.told(49, N);
        due("what is there does not count", x.fits(0, 1, 0), 1);
        due("k", x.fits(0, 1, 1), 2);
        due("v", x.fits(0, 1, 2), 50);
        Ready.tell(x, 0, "tie 50 when age=0 and ties=0 and place=1; tie 999;");
        due("age 0, as it is on the ROPE", x.fits(0, 1, 0), 99);
        due("at its PLACE", x.fits(0, 2, 0), 0);
        x.tie(0, 3, 0, 0);
        due("ties", x.fits(0, 1, 0), 0);
        due("it stays", x.habit(0, 1, 3, 0), 47);
        due("nothing comes", x.habit(0, 1, 2, 0), 0);
    }

    private static void fitsNeedAnUntiedPlace() {
        Check.part("fits: NONE if one can't be (TIED), or another what");
        RopeMind x = Ready.with(3);
        x.tie(0, 1, 0, 0);
        for (int what = 0; what < 4; what++) {
            due("TIED", x.fits(0, 1, what), N);
            for (int place : new int[] {-1, 3, LOW, HIGH}) {
                due("PLACE " + place, x.fits(0, place, what), N);
            }
            for (int rope : new int[] {-1, 1, 8, LOW, HIGH}) {
                due("ROPE " + rope, x.fits(rope, 0, what), N);
            }
        }
        for (int what : new int[] {-1, 4, LOW, HIGH}) {
            due("what " + what, x.fits(0, 0, what), N);
        }
        due("the first PLACE", x.fits(0, 0, 0), 594);
        due("the last PLACE", x.fits(0, 2, 0), 594);
    }

    private static void nextIsTheLeastOfSeveral() {
        Check.part("NEXT: of both parts the greater one is least; of several the least");
        RopeMind x = Ready.with(2);
        due("294 and 300 by 49, 300 and 294 by 50", x.fits(0, 0, 3), 49);
        x.told(60, 2);
        x.told(57, N);
        due("three fit", x.fits(0, 0, 0), 3);
        due("1 and 2 by 58, 2 and 1 by 59", x.fits(0, 0, 3), 58);
        x.told(58, N);
        due("two fit", x.fits(0, 0, 0), 2);
        due("1 and 1 by 59", x.fits(0, 0, 3), 59);
        Ready.tell(x, 0, "tie 60;");
        due("all do alike", x.fits(0, 0, 0), 99);
        due("0 tells as much as any", x.fits(0, 0, 3), 0);
    }

    private static void nextNeedsTwo() {
        Check.part("NEXT: NONE if fewer than two fit");
        RopeMind x = Ready.with(2);
        x.told(60, 2);
        x.told(59, N);
        due("one fits", x.fits(0, 0, 0), 1);
        due("NEXT", x.fits(0, 0, 3), N);
        x.told(58, 2);
        due("none fits", x.fits(0, 0, 0), 0);
        due("NEXT", x.fits(0, 0, 3), N);
        x.told(N, 0);
        x.told(60, 2);
        x.told(58, N);
        due("two fit", x.fits(0, 0, 0), 2);
        due("NEXT", x.fits(0, 0, 3), 59);
    }

    private static void nextAtTheEnds() {
        Check.part("NEXT: the FORCE 0 .. 99");
        RopeMind x = Ready.with(2);
        Ready.tell(x, 0, "tie 0 when knot<3; tie 1;");
        due("0", x.fits(0, 0, 3), 0);
        Ready.tell(x, 0, "tie 98 when knot<3; tie 99;");
        due("98", x.fits(0, 0, 3), 98);
        Ready.tell(x, 0, "tie 99 when knot<3; tie 100;");
        due("99", x.fits(0, 0, 3), 99);
        Ready.tell(x, 0, "tie 100 when knot<3; tie 101;");
        due("100 is no FORCE", x.fits(0, 0, 3), 0);
        Ready.tell(x, 0, "tie 9999;");
        due("NEED 999 of all", x.fits(0, 0, 0), 594);
        due("no FORCE tells", x.fits(0, 0, 3), 0);
    }

    // WEAK, LADDER.

    private static void weakIsTheFirstOfTheLeast() {
        Check.part("WEAK: the least STRENGTH of a ROPE and its first PLACE");
        RopeMind x = Ready.with(24);
        due("90", x.weak(0, 0), 90);
        due("PLACE 0", x.weak(0, 1), 0);
        Ready.tell(x, 2, "hold 5 when place=23; hold 6;");
        due("5", x.weak(0, 0), 5);
        due("PLACE 23", x.weak(0, 1), 23);
        Ready.tell(x, 2, "hold 5 when place>10; hold 6;");
        due("PLACE 11", x.weak(0, 1), 11);
        Ready.tell(x, 2, "hold 0;");
        due("0", x.weak(0, 0), 0);
        due("PLACE 0", x.weak(0, 1), 0);
        Ready.tell(x, 2, "hold 999 when place=4; hold 9999;");
        due("999", x.weak(0, 0), 999);
        due("of several, held", x.weak(0, 1), 0);
    }

    private static void weakAsksTwoThings() {
        Check.part("weak: NONE if there is none such, or another what");
        RopeMind x = Ready.with(2);
        for (int what : new int[] {-1, 2, LOW, HIGH}) {
            due("weak(0, " + what + ")", x.weak(0, what), N);
        }
        for (int rope : new int[] {-1, 1, 8, LOW, HIGH}) {
            due("weak(" + rope + ", 0)", x.weak(rope, 0), N);
            due("weak(" + rope + ", 1)", x.weak(rope, 1), N);
        }
    }

    private static void laddersOfThatLengthAtLeast() {
        Check.part("LADDER of a length: the ROPE of that LENGTH at least; NONE if there is none");
        due("no ROPES", new RopeMind().ladder(2), N);
        due("no ROPES, no length", new RopeMind().ladder(0), N);
        RopeMind x = Ready.with(2, 5, 24);
        due("2", x.ladder(2), 0);
        due("3", x.ladder(3), 1);
        due("5", x.ladder(5), 1);
        due("6", x.ladder(6), 2);
        due("24", x.ladder(24), 2);
        due("25", x.ladder(25), N);
        due("MAX", x.ladder(HIGH), N);
        due("1", x.ladder(1), 0);
        due("0", x.ladder(0), 0);
        due("-1", x.ladder(-1), 0);
        due("MIN", x.ladder(LOW), 0);
    }

    private static void laddersOfTheGreatestLeast() {
        Check.part("LADDER: the least STRENGTH of which is greatest; of several the first");
        RopeMind x = Ready.with(4, 4, 4, 4, 4, 4, 4, 4);
        due("the first of eight", x.ladder(4), 0);
        Ready.tell(x, 2, "hold 50-tied;");
        for (int i = 0; i < 7; i++) {
            x.tie(i, 3, 0, 0);
            due("one more by one", x.ladder(4), i + 1);
        }
        x.tie(7, 3, 0, 0);
        due("all alike again", x.ladder(4), 0);
        Ready.tell(x, 2, "hold 0;");
        due("all 0", x.ladder(4), 0);
        Ready.tell(x, 2, "hold 9999;");
        due("all 999", x.ladder(4), 0);
    }

    // ORDERS, YARD.

    private static void ordersAreSeven() {
        Check.part("ORDERS: up to 7 lengths 1 .. 24 (none at first); NONE if one can't be, or there are seven");
        RopeMind x = new RopeMind();
        due("none at first", x.look(11), 0);
        for (int length : new int[] {0, 25, -2, LOW, HIGH}) {
            due("order(" + length + ")", x.order(length), N);
        }
        due("none", x.look(11), 0);
        due("1", x.order(1), 1);
        due("24", x.order(24), 2);
        for (int i = 3; i <= 7; i++) {
            due("order", x.order(2), i);
        }
        due("an eighth", x.order(2), N);
        due("seven", x.look(11), 7);
        due("NONE: none is there then", x.order(N), 0);
        due("none", x.look(11), 0);
        due("none again", x.order(N), 0);
        due("one", x.order(24), 1);
    }

    private static void yardOfNothing() {
        Check.part("YARD: no ORDERS");
        due("no ROPES", new RopeMind().yard(0), 0);
        RopeMind x = Ready.with(5);
        due("a ROPE", x.yard(0), 0);
        due("yard(10)", x.yard(10), N);
        RopeMind y = new RopeMind();
        y.order(1);
        due("an ORDER, no ROPES", y.yard(0), N);
        due("no ROPE for it", y.yard(10), N);
    }

    private static void yardAtTheLength() {
        Check.part("ORDERS of one ROPE are together its LENGTH at most; NONE if they can't be cut");
        RopeMind x = Ready.with(24);
        x.order(24);
        due("24 of 24", x.yard(0), 1);
        due("from ROPE 0", x.yard(10), 0);
        x.order(1);
        due("25 of 24", x.yard(0), N);
        due("none for ORDER 0", x.yard(10), N);
        due("none for ORDER 1", x.yard(11), N);
        RopeMind y = Ready.with(7);
        for (int i = 0; i < 7; i++) {
            y.order(1);
        }
        due("7 times 1 of 7", y.yard(0), 1);
        RopeMind z = Ready.with(6);
        for (int i = 0; i < 7; i++) {
            z.order(1);
        }
        due("7 times 1 of 6", z.yard(0), N);
        RopeMind w = Ready.with(5, 5);
        w.order(6);
        due("an ORDER is of one ROPE", w.yard(0), N);
    }

    private static void yardOfTheFewest() {
        Check.part("YARD: the fewest ROPES");
        RopeMind x = Ready.with(2, 2, 2, 2, 2, 2, 2, 14);
        for (int i = 0; i < 7; i++) {
            x.order(2);
        }
        due("one does", x.yard(0), 1);
        for (int i = 0; i < 7; i++) {
            due("ORDER " + i, x.yard(10 + i), 7);
        }
        RopeMind y = Ready.with(2, 2, 2, 2, 2, 2, 2, 2);
        for (int i = 0; i < 7; i++) {
            y.order(2);
        }
        due("seven of eight", y.yard(0), 7);
        for (int i = 0; i < 7; i++) {
            due("ORDER " + i, y.yard(10 + i), i);
        }
        RopeMind z = Ready.with(10, 9, 9);
        for (int length : new int[] {6, 6, 3, 3}) {
            z.order(length);
        }
        due("two, though the first fits the longest less well", z.yard(0), 2);
    }

    private static void yardTakesTheFirstWay() {
        Check.part("YARD: of several ways the first (ORDER by ORDER, the lesser)");
        RopeMind x = Ready.with(6, 6, 6);
        x.order(2);
        x.order(4);
        x.order(4);
        due("two", x.yard(0), 2);
        int[] want = {0, 0, 1};
        for (int i = 0; i < 3; i++) {
            due("ORDER " + i, x.yard(10 + i), want[i]);
        }
        RopeMind y = Ready.with(4, 6, 6);
        y.order(2);
        y.order(4);
        y.order(4);
        due("two", y.yard(0), 2);
        int[] first = {1, 0, 1};
        for (int i = 0; i < 3; i++) {
            due("ORDER 0 can't be from ROPE 0: " + i, y.yard(10 + i), first[i]);
        }
    }

    private static void yardAsksForOrders() {
        Check.part("yard: NONE for another what");
        RopeMind x = Ready.with(24);
        for (int i = 0; i < 7; i++) {
            due("yard(" + (10 + i) + ") ahead of it", x.yard(10 + i), N);
            x.order(1);
            due("yard(" + (10 + i) + ")", x.yard(10 + i), 0);
        }
        for (int what : new int[] {-1, 1, 2, 9, 17, 18, LOW, HIGH, LOW + 10, HIGH - 9}) {
            due("yard(" + what + ")", x.yard(what), N);
        }
        due("yard(0)", x.yard(0), 1);
    }

    // MOVES, MARKS.

    private static int movesOf(String a, String b) {
        RopeMind x = new RopeMind();
        Ready.tell(x, 4, a);
        Ready.tell(x, 7, b);
        due("as many back", x.moves(3, 0), x.moves(0, 3));
        return x.moves(0, 3);
    }

    private static void movesAreTwelveAtMost() {
        Check.part("MOVES: the fewest from the one to the other, 12 at most");
        due("none", movesOf("", ""), 0);
        due("none of seven", movesOf("outoutt", "outoutt"), 0);
        due("11", movesOf("oooutuu", "uuutooo"), 11);
        due("12", movesOf("oootuuu", "uuutooo"), 12);
        due("seven t", movesOf("ttttttt", "t"), 3);
        due("seven t", movesOf("ttttttt", "ttttttt"), 0);
        due("never, by o", movesOf("o", ""), N);
        due("never, by u", movesOf("u", "o"), N);
        due("never, by t", movesOf("t", ""), N);
        due("never, by both", movesOf("ooooooo", "uuuuuuu"), N);
    }

    private static void movesOfSevenLetters() {
        Check.part("MOVES: or such come (7 letters at most)");
        due("from 5 to 7", movesOf("ooooo", "ooooouo"), 1);
        due("from 6 to 4 and to 6 again", movesOf("oooouu", "uuoooo"), 4);
        due("by nothing, or almost", movesOf("oouu", "uuoo"), 4);
        due("from nothing to 7, and a t", movesOf("t", "ououtou"), 3);
        due("7 where a pair has to go ahead of another", movesOf("ouououo", "uoououo"), 2);
        due("a full one that no MOVE changes", movesOf("ooooooo", "ooooooo"), 0);
        due("a full one with a t at its end", movesOf("oooooot", "toooooo"), 6);
    }

    private static void movesOneByOne() {
        Check.part("one MOVE: o u or u o go, or two t; or such come, anywhere; or a t changes place");
        String[] pairs = {"ou", "uo", "tt"};
        for (String pair : pairs) {
            for (int i = 0; i <= 5; i++) {
                String rest = "ooooo";
                due(pair + " at " + i, movesOf(rest.substring(0, i) + pair + rest.substring(i), rest), 1);
            }
            due(pair + " alone", movesOf(pair, ""), 1);
        }
        due("t o", movesOf("to", "ot"), 1);
        due("t u", movesOf("tu", "ut"), 1);
        due("t t stays", movesOf("ttt", "ttt"), 0);
        due("o and u do not change place", movesOf("ou", "uo"), 2);
        due("letters apart do not go", movesOf("otu", "t"), 2);
    }

    private static void movesOfFourShapes() {
        Check.part("moves: NONE if there is none such");
        RopeMind x = new RopeMind();
        for (int k : new int[] {-1, 4, LOW, HIGH}) {
            due("moves(" + k + ", 0)", x.moves(k, 0), N);
            due("moves(0, " + k + ")", x.moves(0, k), N);
            due("unlike(" + k + ", 0)", x.unlike(k, 0), N);
            due("unlike(0, " + k + ")", x.unlike(0, k), N);
            due("shape(" + k + ", 0)", x.shape(k, 0), N - 99);
        }
        for (int a = 0; a < 4; a++) {
            for (int b = 0; b < 4; b++) {
                due("moves(" + a + ", " + b + ")", x.moves(a, b), 0);
                due("unlike(" + a + ", " + b + ")", x.unlike(a, b), 0);
            }
        }
    }

    private static void marksAtTheirEnds() {
        Check.part("MARKS: o less u; t modulo 2");
        String[] texts = {"", "ooooooo", "uuuuuuu", "ttttttt", "tttttt", "ououout", "o", "u", "t", "tt"};
        int[] less = {0, 7, -7, 0, 0, 0, 1, -1, 0, 0};
        int[] odd = {0, 0, 0, 1, 0, 1, 0, 0, 1, 0};
        for (int i = 0; i < texts.length; i++) {
            RopeMind x = new RopeMind();
            Ready.tell(x, 4 + i % 4, texts[i]);
            due("o less u of '" + texts[i] + "'", x.shape(i % 4, 1), less[i]);
            due("t modulo 2 of '" + texts[i] + "'", x.shape(i % 4, 2), odd[i]);
        }
    }

    private static void unlikeByEitherMark() {
        Check.part("UNLIKE: 1, if MARKS differ, else 0");
        String[] texts = {"", "t", "o", "ot"};
        RopeMind x = new RopeMind();
        for (int k = 0; k < 4; k++) {
            Ready.tell(x, 4 + k, texts[k]);
        }
        for (int a = 0; a < 4; a++) {
            for (int b = 0; b < 4; b++) {
                due("'" + texts[a] + "', '" + texts[b] + "'", x.unlike(a, b), a == b ? 0 : 1);
            }
        }
        Ready.tell(x, 4, "ttouo");
        due("alike, though other letters", x.unlike(0, 2), 0);
    }

    private static void shapeAsksForLetters() {
        Check.part("shape: NONE - 99 if there is none such, or another what");
        RopeMind x = new RopeMind();
        Ready.tell(x, 4, "outouto");
        Ready.tell(x, 5, "t");
        for (int what : new int[] {-1, 3, 9, 17, 18, LOW, HIGH, LOW + 10, HIGH - 9}) {
            due("shape(0, " + what + ")", x.shape(0, what), N - 99);
        }
        due("letter 0", x.shape(0, 10), 0);
        due("letter 6", x.shape(0, 16), 0);
        due("letter 0 of one", x.shape(1, 10), 2);
        due("letter 1 of one", x.shape(1, 11), N - 99);
        due("letter 0 of none", x.shape(2, 10), N - 99);
        Ready.tell(x, 4, "u");
        due("what is shorter now", x.shape(0, 11), N - 99);
    }

    // WHOSE, OWNERS.

    private static void whoseIsTheLatest() {
        Check.part("WHOSE: by THE BOOK, the latest HAND who TIED at a PLACE of a ROPE (NONE: nobody)");
        RopeMind x = Ready.with(24);
        due("nobody", x.whose(0, 0, 0), N);
        x.tie(0, 23, 0, 0);
        due("0 at the last PLACE", x.whose(0, 23, 0), 0);
        due("nobody beside", x.whose(0, 22, 0), N);
        x.untie(0, 23);
        due("untied: still", x.whose(0, 23, 0), 0);
        x.tie(0, 23, 1, 9);
        due("9", x.whose(0, 23, 0), 9);
        x.untie(0, 23);
        x.pull(0, 97);
        due("not one that tied itself", x.whose(0, 23, 0), 9);
        for (int rope : new int[] {-1, 8, LOW, HIGH}) {
            due("ROPE " + rope, x.whose(rope, 0, 0), N - 1);
            due("ROPE " + rope, x.whose(rope, 0, 1), N - 1);
        }
        for (int place : new int[] {-1, 24, LOW, HIGH}) {
            due("PLACE " + place, x.whose(0, place, 0), N - 1);
        }
        for (int what : new int[] {-1, 2, LOW, HIGH}) {
            due("what " + what, x.whose(0, 0, what), N - 1);
        }
        due("ROPE 7, PLACE 23", x.whose(7, 23, 0), N);
    }

    private static void whoseByNumbersAsTheyWere() {
        Check.part("WHOSE: (by its number and PLACE as they were then)");
        RopeMind x = Ready.with(6);
        x.tie(0, 5, 0, 4);
        x.cut(0, 3);
        due("as it was then", x.whose(0, 5, 0), 4);
        due("not as it is", x.whose(1, 2, 0), N);
        x.tie(1, 2, 0, 6);
        due("TIED already", x.whose(1, 2, 0), N);
        x.untie(1, 2);
        x.tie(1, 2, 0, 6);
        due("as it is now", x.whose(1, 2, 0), 6);
        x.splice(0, 1);
        due("of a number that is not there", x.whose(1, 2, 0), 6);
        due("as it was then", x.whose(0, 5, 0), 4);
        x.undo();
        x.undo();
        due("what is undone is not in THE BOOK", x.whose(1, 2, 0), N);
    }

    private static void ownersAreCounted() {
        Check.part("OWNERS: how many were SOLD to, by THE BOOK, a ROPE's number (PLACE not asked)");
        RopeMind x = Ready.with(2, 2);
        due("none", x.whose(0, 0, 1), 0);
        x.sell(0, 2);
        due("one", x.whose(0, 0, 1), 1);
        x.sell(0, 3);
        x.sell(1, 3);
        due("two", x.whose(0, 0, 1), 2);
        due("another ROPE's", x.whose(1, 0, 1), 1);
        due("to its OWNER is no SALE", x.sell(0, 3) ? 1 : 0, 0);
        due("two still", x.whose(0, 0, 1), 2);
        for (int place : new int[] {-1, 24, LOW, HIGH}) {
            due("PLACE " + place, x.whose(0, place, 1), 2);
        }
        due("ROPE 7, which was never there", x.whose(7, 0, 1), 0);
        x.undo();
        due("undone", x.whose(1, 0, 1), 0);
    }
}

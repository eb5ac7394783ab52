/** ==== 1. of the document's terms, with promises 1 to 4, 18 to 20 and 37: how far things go, and what they are at first. */
public final class RopeMindEdgesOfThings {
    private static final int N = Ready.N;
    private static final int LOW = Ready.LOW;
    private static final int HIGH = Ready.HIGH;

    private RopeMindEdgesOfThings() { }

    public static void main(String[] args) {
        stateIsZeroAtFirst();
        stateIsAnyInt();
        statesWrap();
        drawsHaveNoSign();
        drawsLeaveTheLowestByte();
        drawsOfAThousand();
        drawsOfAHundred();
        tightGoesFromOneToNine();
        crossGoesFromZeroToNine();
        knotsAreSix();
        stormGoesToAThousand();
        anotherWhatIsNotSet();
        lengthsGoFromTwoTo24();
        ownersAreTen();
        ropesAreEight();
        theLeastNumberIsTaken();
        ropesAreDryAndBornToday();
        placesEndWithTheRope();
        placesAreEmptyAtFirst();
        daysEndAt9999();
        ofAsksSixThings();
        atAsksFourThings();
        habitAsksThreeThings();
        looksOfANewObject();
        lookHasGaps();
        theSetOfRopes();
        Check.end();
    }

    private static void due(String call, long got, long want) {
        Check.due(call, got, want);
    }

    private static void due(String call, boolean got, boolean want) {
        Check.due(call, got, want);
    }

    // STATE and DRAWS.

    private static void stateIsZeroAtFirst() {
        Check.part("STATE of draws (an int, 0 at first)");
        due("look(4)", new RopeMind().look(4), 0);
        due("state(1)", new RopeMind().state(1), 0);
    }

    private static void stateIsAnyInt() {
        Check.part("STATE is told: what it was");
        RopeMind x = new RopeMind();
        int was = 0;
        for (int v : new int[] {HIGH, LOW, -1, 1, 0, HIGH - 1, LOW + 1}) {
            due("state(" + v + ")", x.state(v), was);
            due("look(4)", x.look(4), v);
            was = v;
        }
    }

    private static void statesWrap() {
        Check.part("it becomes 1664525 times itself + 1013904223 (ints, which wrap)");
        for (int v : new int[] {0, 1, -1, HIGH, LOW, 1290, 1291, -1899}) {
            RopeMind x = new RopeMind();
            x.set(2, 0, 1);
            x.state(v);
            x.days(1);
            due("from " + v, x.look(4), Ready.after(v));
        }
    }

    /** Whether a day's DRAW of 1000, with STATE then as told, calls a storm. */
    private static boolean isStormy(int state, int storm) {
        RopeMind x = Ready.with(2);
        Ready.tell(x, 2, "hold 99;");
        x.set(2, 0, storm);
        x.state(Ready.before(state));
        x.days(1);
        due("STATE by one DRAW or two", x.look(4) == state || x.look(4) == Ready.after(state), true);
        return x.look(4) == Ready.after(state);
    }

    private static void drawsHaveNoSign() {
        Check.part("its highest 24 bits (without sign) modulo m");
        due("0x800000 is 8388608, by 1000: 608; below 608", isStormy(LOW, 608), false);
        due("below 609", isStormy(LOW, 609), true);
        due("0xffffff is 16777215, by 1000: 215; below 215", isStormy(-1, 215), false);
        due("below 216", isStormy(-1, 216), true);
        due("0x7fffff is 8388607, by 1000: 607; below 607", isStormy(HIGH, 607), false);
        due("below 608", isStormy(HIGH, 608), true);
    }

    private static void drawsLeaveTheLowestByte() {
        Check.part("its highest 24 bits");
        due("0 is below 1", isStormy(0, 1), true);
        due("255 is 0 still", isStormy(255, 1), true);
        due("256 is 1, not below 1", isStormy(256, 1), false);
        due("256 is 1, below 2", isStormy(256, 2), true);
    }

    private static void drawsOfAThousand() {
        Check.part("a DRAW of 1000: below STORM");
        due("998 is below 999", isStormy(998 << 8, 999), true);
        due("999 is not below 999", isStormy(999 << 8, 999), false);
        due("999 is below 1000", isStormy(999 << 8, 1000), true);
        due("1000 is 0, below 1", isStormy(1000 << 8, 1), true);
    }

    /** Whether the ROPE breaks in a storm where the DRAW of 100 leaves STATE as told. */
    private static boolean breaksBy(int state, int strength) {
        RopeMind x = Ready.with(4);
        Ready.tell(x, 2, "hold " + strength + ";");
        x.set(2, 0, 1000);
        x.state(Ready.before(Ready.before(state)));
        int breaks = x.days(1);
        due("STATE", x.look(4), state);
        return breaks == 1;
    }

    private static void drawsOfAHundred() {
        Check.part("each ROPE is PULLED by a DRAW of 100");
        due("99 breaks 98", breaksBy(99 << 8, 98), true);
        due("99 does not break 99", breaksBy(99 << 8, 99), false);
        due("100 is 0 and breaks nothing", breaksBy(100 << 8, 0), false);
        due("1 breaks 0", breaksBy(1 << 8, 0), true);
        due("0x800000 is 8", breaksBy(LOW, 7), true);
        due("and not more", breaksBy(LOW, 8), false);
        RopeMind x = Ready.with(2);
        Ready.habit(x, 0, 0, 0, 20);
        Ready.tell(x, 0, "tie 0;");
        x.set(2, 0, 1000);
        x.state(Ready.before(Ready.before(100 << 8)));
        x.days(1);
        due("a FORCE of 0 pulls too", x.of(0, 4), 1);
    }

    // What is set.

    private static void tightGoesFromOneToNine() {
        Check.part("TIGHT 1 .. 9 (3 at first)");
        for (int k = 0; k < 6; k++) {
            RopeMind x = new RopeMind();
            due("at first", x.look(20 + k), 3);
            due("0", x.set(0, k, 0), false);
            due("10", x.set(0, k, 10), false);
            due("-1", x.set(0, k, -1), false);
            due("MIN", x.set(0, k, LOW), false);
            due("MAX", x.set(0, k, HIGH), false);
            due("still 3", x.look(20 + k), 3);
            due("1", x.set(0, k, 1), true);
            due("1 then", x.look(20 + k), 1);
            due("9", x.set(0, k, 9), true);
            due("9 then", x.look(20 + k), 9);
            due("CROSS stays", x.look(30 + k), 2);
        }
    }

    private static void crossGoesFromZeroToNine() {
        Check.part("CROSS 0 .. 9 (2 at first)");
        for (int k = 0; k < 6; k++) {
            RopeMind x = new RopeMind();
            due("at first", x.look(30 + k), 2);
            due("-1", x.set(1, k, -1), false);
            due("10", x.set(1, k, 10), false);
            due("MIN", x.set(1, k, LOW), false);
            due("MAX", x.set(1, k, HIGH), false);
            due("still 2", x.look(30 + k), 2);
            due("0", x.set(1, k, 0), true);
            due("0 then", x.look(30 + k), 0);
            due("9", x.set(1, k, 9), true);
            due("9 then", x.look(30 + k), 9);
            due("TIGHT stays", x.look(20 + k), 3);
        }
    }

    private static void knotsAreSix() {
        Check.part("KNOTS 0 .. 5");
        RopeMind x = Ready.with(3);
        for (int who : new int[] {-1, 6, LOW, HIGH}) {
            due("TIGHT of " + who, x.set(0, who, 1), false);
            due("CROSS of " + who, x.set(1, who, 1), false);
            due("tie " + who, x.tie(0, 0, who, 0), false);
            due("habit of " + who, x.habit(0, 0, who, 0), N - 1);
            due("train " + who, x.train(0, 0, who, 99), N);
        }
        for (int k = 0; k < 6; k++) {
            due("still 3", x.look(20 + k), 3);
            due("still 2", x.look(30 + k), 2);
            due("habit of " + k, x.habit(0, 0, k, 0), 0);
        }
        due("knot 0", x.tie(0, 0, 0, 0), true);
        due("knot 5", x.tie(0, 1, 5, 0), true);
        due("knot 0 is TIED", x.at(0, 0, 0), 0);
        due("knot 5 is TIED", x.at(0, 1, 0), 5);
    }

    private static void stormGoesToAThousand() {
        Check.part("STORM 0 .. 1000 (0 at first)");
        RopeMind x = new RopeMind();
        due("at first", x.look(2), 0);
        due("-1", x.set(2, 0, -1), false);
        due("1001", x.set(2, 0, 1001), false);
        due("MIN", x.set(2, 0, LOW), false);
        due("MAX", x.set(2, 0, HIGH), false);
        due("still 0", x.look(2), 0);
        due("1000", x.set(2, 0, 1000), true);
        due("1000 then", x.look(2), 1000);
        due("1001", x.set(2, 0, 1001), false);
        due("still 1000", x.look(2), 1000);
        due("0", x.set(2, 0, 0), true);
        due("0 then", x.look(2), 0);
        for (int who : new int[] {-1, 6, LOW, HIGH}) {
            due("who not asked", x.set(2, who, 7), true);
        }
        due("7 then", x.look(2), 7);
    }

    private static void anotherWhatIsNotSet() {
        Check.part("set: false if another what");
        RopeMind x = new RopeMind();
        for (int what : new int[] {-1, 3, LOW, HIGH}) {
            due("set(" + what + ", 0, 1)", x.set(what, 0, 1), false);
        }
        due("TIGHT", x.look(20), 3);
        due("CROSS", x.look(30), 2);
        due("STORM", x.look(2), 0);
    }

    // Ropes.

    private static void lengthsGoFromTwoTo24() {
        Check.part("LENGTH n 2 .. 24");
        RopeMind x = new RopeMind();
        for (int length : new int[] {1, 0, -1, 25, LOW, HIGH}) {
            due("rope(" + length + ", 0)", x.rope(length, 0), N);
        }
        due("none is there", x.look(0), 0);
        due("rope(2, 0)", x.rope(2, 0), 0);
        due("rope(24, 0)", x.rope(24, 0), 1);
        due("2", x.of(0, 0), 2);
        due("24", x.of(1, 0), 24);
    }

    private static void ownersAreTen() {
        Check.part("OWNER 0 .. 9");
        RopeMind x = new RopeMind();
        for (int owner : new int[] {-1, 10, LOW, HIGH}) {
            due("rope(5, " + owner + ")", x.rope(5, owner), N);
        }
        due("none is there", x.look(0), 0);
        due("rope(5, 0)", x.rope(5, 0), 0);
        due("rope(5, 9)", x.rope(5, 9), 1);
        due("0", x.of(0, 1), 0);
        due("9", x.of(1, 1), 9);
    }

    private static void ropesAreEight() {
        Check.part("ROPES 0 .. 7; NONE if there are eight");
        RopeMind x = new RopeMind();
        for (int i = 0; i < 8; i++) {
            due("rope", x.rope(2 + i, i), i);
        }
        due("a ninth", x.rope(2, 0), N);
        for (int i = 0; i < 8; i++) {
            due("LENGTH of " + i, x.of(i, 0), 2 + i);
            due("OWNER of " + i, x.of(i, 1), i);
        }
        for (int i : new int[] {-1, 8, LOW, HIGH}) {
            due("of(" + i + ", 0)", x.of(i, 0), N);
            due("at(" + i + ", 0, 0)", x.at(i, 0, 0), N - 1);
            due("habit(" + i + ", 0, 0, 0)", x.habit(i, 0, 0, 0), N - 1);
        }
    }

    private static void theLeastNumberIsTaken() {
        Check.part("A new one takes the least number that is not there");
        RopeMind x = Ready.with(2, 2, 2, 2, 2, 2, 2, 2);
        x.splice(7, 5);
        x.splice(7, 2);
        due("2 of 2 and 5", x.rope(3, 0), 2);
        due("then 5", x.rope(3, 0), 5);
        due("then none", x.rope(3, 0), N);
        x.splice(7, 0);
        due("0", x.rope(3, 0), 0);
        RopeMind y = Ready.with(2, 2, 2, 2, 2, 2, 2, 2);
        y.splice(0, 7);
        due("7, the last", y.rope(3, 0), 7);
    }

    private static void ropesAreDryAndBornToday() {
        Check.part("BORN (a DAY), WET 0 .. 9 (0 at first)");
        RopeMind x = Ready.with(2);
        due("BORN on DAY 0", x.of(0, 2), 0);
        due("dry", x.of(0, 3), 0);
        x.rope(2, 0);
        x.wet(1, 9);
        x.splice(0, 1);
        due("a number that was wet", x.rope(2, 0), 1);
        due("a new one is dry", x.of(1, 3), 0);
        RopeMind late = Ready.onDay(9999);
        late.rope(2, 0);
        due("BORN on DAY 9999", late.of(1, 2), 9999);
    }

    private static void placesEndWithTheRope() {
        Check.part("PLACES 0 .. n - 1");
        RopeMind x = Ready.with(2, 24);
        for (int place : new int[] {-1, 2, LOW, HIGH}) {
            due("at(0, " + place + ", 0)", x.at(0, place, 0), N - 1);
            due("habit at " + place, x.habit(0, place, 0, 0), N - 1);
            due("tie at " + place, x.tie(0, place, 0, 0), false);
            due("untie at " + place, x.untie(0, place), N);
            due("train at " + place, x.train(0, place, 0, 99), N);
            due("fits at " + place, x.fits(0, place, 0), N);
        }
        due("the first of 2", x.tie(0, 0, 0, 0), true);
        due("the last of 2", x.tie(0, 1, 1, 0), true);
        due("the first of 24", x.tie(1, 0, 2, 0), true);
        due("the last of 24", x.tie(1, 23, 3, 0), true);
        due("24 of 24", x.tie(1, 24, 3, 0), false);
        due("at(1, 24, 0)", x.at(1, 24, 0), N - 1);
        due("habit(1, 24, 0, 0)", x.habit(1, 24, 0, 0), N - 1);
        due("untie(1, 24)", x.untie(1, 24), N);
        due("the last of 2 is", x.at(0, 1, 0), 1);
        due("the last of 24 is", x.at(1, 23, 0), 3);
        due("its HABIT", x.habit(1, 23, 3, 0), 3);
        due("the first of 24 is", x.at(1, 0, 0), 2);
    }

    private static void placesAreEmptyAtFirst() {
        Check.part("the KNOT that is TIED there, or none (none at first); HABIT (0 at first)");
        RopeMind x = Ready.with(24);
        for (int place = 0; place < 24; place++) {
            due("TIED", x.at(0, place, 0), N);
            due("CALL", x.at(0, place, 1), N);
            due("NEED", x.at(0, place, 2), N);
            due("STRENGTH", x.at(0, place, 3), 90);
            for (int k = 0; k < 6; k++) {
                due("HABIT", x.habit(0, place, k, 0), 0);
            }
        }
        due("SINCE (a DAY, if the HABIT is above 0)", x.habit(0, 23, 5, 1), N);
        due("LOSS (0 without one)", x.habit(0, 23, 5, 2), 0);
        Ready.habit(x, 0, 0, 0, 1);
        due("SINCE of a HABIT of 1", x.habit(0, 0, 0, 1), 0);
        due("LOSS of a HABIT of 1", x.habit(0, 0, 0, 2), 1);
        x.days(1);
        due("the HABIT is 0 again", x.habit(0, 0, 0, 0), 0);
        due("no SINCE then", x.habit(0, 0, 0, 1), N);
        due("no LOSS then", x.habit(0, 0, 0, 2), 0);
        RopeMind y = Ready.with(2, 2);
        y.tie(1, 0, 0, 0);
        y.splice(0, 1);
        y.rope(2, 0);
        due("a number's past is not a new ROPE's", y.at(1, 0, 0), N);
        due("nor its HABIT", y.habit(1, 0, 0, 0), 0);
    }

    private static void daysEndAt9999() {
        Check.part("DAY 0 .. 9999 (0 at first)");
        due("at first", new RopeMind().look(1), 0);
        RopeMind x = Ready.onDay(9998);
        due("two more", x.days(2), N);
        due("9998 still", x.look(1), 9998);
        due("one more", x.days(1), 0);
        due("9999", x.look(1), 9999);
        due("one more", x.days(1), N);
        due("9999 still", x.look(1), 9999);
        x.tie(0, 0, 0, 0);
        due("SINCE 9999", x.habit(0, 0, 0, 1), 9999);
    }

    // What is asked.

    private static void ofAsksSixThings() {
        Check.part("of: NONE if there is none such, or another what");
        RopeMind x = Ready.with(5, 4);
        x.splice(0, 1);
        for (int what : new int[] {-1, 6, LOW, HIGH}) {
            due("of(0, " + what + ")", x.of(0, what), N);
        }
        for (int what = 0; what < 6; what++) {
            due("one that is there no more, " + what, x.of(1, what), N);
            due("of(7, " + what + ")", x.of(7, what), N);
        }
        due("of(0, 0)", x.of(0, 0), 9);
        due("of(0, 5)", x.of(0, 5), 0);
        for (int place = 0; place < 9; place++) {
            x.tie(0, place, place % 6, 0);
        }
        due("all are TIED", x.of(0, 4), 9);
        due("all HABITS added", x.of(0, 5), 27);
        RopeMind y = Ready.with(4);
        y.tie(0, 0, 0, 0);
        y.tie(0, 3, 5, 0);
        y.tie(0, 2, 5, 0);
        y.cut(0, 2);
        due("what is behind a cut does not count", y.of(0, 4), 1);
        due("nor its HABITS", y.of(0, 5), 3);
        due("it counts for the new one", y.of(1, 4), 2);
    }

    private static void atAsksFourThings() {
        Check.part("at: NONE - 1 if there is none such, or another what");
        RopeMind x = Ready.with(3, 3);
        x.splice(0, 1);
        x.tie(0, 1, 2, 0);
        for (int what : new int[] {-1, 4, LOW, HIGH}) {
            due("untied, " + what, x.at(0, 0, what), N - 1);
            due("TIED, " + what, x.at(0, 1, what), N - 1);
        }
        for (int what = 0; what < 4; what++) {
            due("a ROPE that is there no more, " + what, x.at(1, 0, what), N - 1);
            due("behind the last, " + what, x.at(0, 6, what), N - 1);
            due("ahead of the first, " + what, x.at(0, -1, what), N - 1);
        }
        due("the KNOT", x.at(0, 1, 0), 2);
        due("the CALL (TIED: NONE)", x.at(0, 1, 1), N);
        due("NEED of that (NONE)", x.at(0, 1, 2), N);
        due("STRENGTH", x.at(0, 1, 3), 90);
    }

    private static void habitAsksThreeThings() {
        Check.part("habit: NONE - 1 if there is none such, or another what");
        RopeMind x = Ready.with(3, 3);
        x.splice(0, 1);
        x.tie(0, 1, 2, 0);
        for (int what : new int[] {-1, 3, LOW, HIGH}) {
            due("with one, " + what, x.habit(0, 1, 2, what), N - 1);
            due("without one, " + what, x.habit(0, 1, 3, what), N - 1);
        }
        for (int what = 0; what < 3; what++) {
            due("a ROPE that is there no more, " + what, x.habit(1, 0, 0, what), N - 1);
            due("behind the last, " + what, x.habit(0, 6, 0, what), N - 1);
            due("knot 6, " + what, x.habit(0, 0, 6, what), N - 1);
        }
    }

    private static void looksOfANewObject() {
        Check.part("RopeMind(): No ropes");
        RopeMind x = new RopeMind();
        for (int what = 0; what <= 11; what++) {
            due("look(" + what + ")", x.look(what), 0);
        }
        for (int rope = 0; rope < 8; rope++) {
            for (int what = 0; what < 6; what++) {
                due("of(" + rope + ", " + what + ")", x.of(rope, what), N);
            }
        }
        for (int k = 0; k < 4; k++) {
            due("SHAPE " + k, x.shape(k, 0), 0);
        }
        due("NONE", RopeMind.NONE, -1);
        due("no line", x.book(0, 0), N - 1);
        due("nothing to undo", x.undo(), false);
        due("no image", x.image(false), false);
        due("no TAPE", x.end(1), false);
        due("no FAULT", x.fault(0), 0);
        due("no place of one", x.fault(1), N);
    }

    private static void lookHasGaps() {
        Check.part("look: NONE for another what");
        RopeMind x = Ready.with(2);
        for (int what : new int[] {-1, 12, 13, 18, 19, 26, 29, 36, 37, 40, 100, LOW, HIGH}) {
            due("look(" + what + ")", x.look(what), N);
        }
        for (int k = 0; k < 6; k++) {
            x.set(0, k, 4 + (k + 1) % 6);
            x.set(1, k, (k + 5) % 6);
        }
        for (int k = 0; k < 6; k++) {
            due("TIGHT of " + k, x.look(20 + k), 4 + (k + 1) % 6);
            due("CROSS of " + k, x.look(30 + k), (k + 5) % 6);
        }
    }

    private static void theSetOfRopes() {
        Check.part("look: 0 ROPES that are there (a set)");
        RopeMind x = new RopeMind();
        due("empty", x.look(0), 0);
        for (int i = 0; i < 8; i++) {
            x.rope(2, 0);
            due("the first " + (i + 1), x.look(0), (2 << i) - 1);
        }
        for (int i = 0; i < 7; i++) {
            x.splice(7, i);
            due("without the first " + (i + 1), x.look(0), 255 - ((2 << i) - 1));
        }
        due("the last alone", x.look(0), 128);
        due("it has all PLACES", x.of(7, 0), 16);
    }
}

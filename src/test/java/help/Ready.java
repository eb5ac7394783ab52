import java.math.BigInteger;

/** Makes objects that stand just beside an edge, and tells what draws will be. */
final class Ready {
    static final int N = RopeMind.NONE;
    static final int LOW = Integer.MIN_VALUE;
    static final int HIGH = Integer.MAX_VALUE;
    private static final BigInteger FACTOR = BigInteger.valueOf(1664525);
    private static final BigInteger MORE = BigInteger.valueOf(1013904223);
    private static final BigInteger WORLD = BigInteger.ONE.shiftLeft(32);

    private Ready() { }

    /** Ropes 0, 1, .. of these lengths, all of owner 1. */
    static RopeMind with(int... lengths) {
        RopeMind x = new RopeMind();
        for (int length : lengths) {
            x.rope(length, 1);
        }
        return x;
    }

    /** Ties and unties a knot so often, by hand 0. */
    static void practise(RopeMind x, int rope, int place, int knot, int times) {
        for (int i = 0; i < times; i++) {
            x.tie(rope, place, knot, 0);
            x.untie(rope, place);
        }
    }

    /** A HABIT that was 0 becomes just so much, by ties; TIGHT is 3 then, as at first. */
    static void habit(RopeMind x, int rope, int place, int knot, int much) {
        x.set(0, knot, 9);
        practise(x, rope, place, knot, much / 9);
        if (much % 9 > 0) {
            x.set(0, knot, much % 9);
            practise(x, rope, place, knot, 1);
        }
        x.set(0, knot, 3);
        Check.due("habit made ready", x.habit(rope, place, knot, 0), much);
    }

    /** Tells a text that has no fault. */
    static void tell(RopeMind x, int k, String text) {
        Check.due("no fault in '" + text + "'", Check.tell(x, k, text) >= 0, true);
    }

    /** A rope of length 2, and so many days, by few calls: a drill of 150 rests goes through most of them. */
    static RopeMind onDay(int day) {
        RopeMind x = with(2);
        tell(x, 3, "again 5(again 5(again 6(rest 30;)))");
        for (int i = 0; i < day / 4500; i++) {
            x.drill(0, 0);
        }
        for (int i = 0; i < day % 4500 / 60; i++) {
            x.days(60);
        }
        if (day % 4500 % 60 > 0) {
            x.days(day % 4500 % 60);
        }
        tell(x, 3, "");
        Check.due("day made ready", x.look(1), day);
        return x;
    }

    /** Sells rope 0 to and fro until the book has so many lines. */
    static void fill(RopeMind x, int lines) {
        int owner = x.of(0, 1);
        for (int i = x.look(3); i < lines; i++) {
            owner = owner == 1 ? 2 : 1;
            x.sell(0, owner);
        }
        Check.due("lines made ready", x.look(3), lines);
    }

    static int after(int state) {
        return BigInteger.valueOf(state).multiply(FACTOR).add(MORE).mod(WORLD).intValue();
    }

    /** The STATE that becomes this one by a DRAW. */
    static int before(int state) {
        return BigInteger.valueOf(state).subtract(MORE).multiply(FACTOR.modInverse(WORLD)).mod(WORLD).intValue();
    }
}

/** What the laws say (==== 2. of the document's terms, promises 19 and 20): CALL, NEED, LOSS and STRENGTH at their bounds. */
public final class RopeMindEdgesOfLaws {
    private static final int N = Ready.N;

    private RopeMindEdgesOfLaws() { }

    public static void main(String[] args) {
        theCallIsTheOldest();
        ofSeveralTheGreatest();
        ofSeveralTheLeast();
        noCallWithoutAHabit();
        needWithoutALaw();
        needIsHeld();
        lossIsHeld();
        lossWithoutALaw();
        strengthIsHeld();
        strengthWithoutALaw();
        theFirstLineThatIsSo();
        signsOfComparing();
        orAndNot();
        numbersWrap();
        partsGoTowardsZero();
        whatTyingAsks();
        besideAtTheEnds();
        tiesOfAFullRope();
        whatForgettingAsks();
        whatHoldingAsks();
        yearsAreOf365Days();
        sixteenLinesAreRead();
        lawsAsLongAsTheTape();
        aLawLeavesNothingOfAnother();
        Check.end();
    }

    private static void due(String call, long got, long want) {
        Check.due(call, got, want);
    }

    // CALL.

    private static void theCallIsTheOldest() {
        Check.part("CALL: of KNOTS with a HABIT above 0 there that with the least SINCE");
        RopeMind x = Ready.with(3);
        Ready.habit(x, 0, 0, 5, 4);
        Ready.habit(x, 0, 1, 0, 99);
        x.days(1);
        Ready.habit(x, 0, 0, 0, 99);
        due("one DAY older, though less", x.at(0, 0, 1), 5);
        due("another PLACE does not count", x.at(0, 2, 1), N);
        x.days(2);
        due("HABIT 1 still calls", x.at(0, 0, 1), 5);
        x.days(1);
        due("HABIT 0 does not", x.at(0, 0, 1), 0);
        Ready.habit(x, 0, 0, 5, 99);
        due("SINCE is of the new HABIT then", x.habit(0, 0, 5, 1), 4);
        due("so it is the later one", x.at(0, 0, 1), 0);
    }

    private static void ofSeveralTheGreatest() {
        Check.part("CALL: of several the greatest HABIT");
        RopeMind x = Ready.with(2);
        Ready.habit(x, 0, 0, 1, 4);
        Ready.habit(x, 0, 0, 4, 5);
        due("5 above 4", x.at(0, 0, 1), 4);
        Ready.habit(x, 0, 1, 2, 99);
        Ready.habit(x, 0, 1, 1, 98);
        due("99 above 98", x.at(0, 1, 1), 2);
    }

    private static void ofSeveralTheLeast() {
        Check.part("CALL: of several the least");
        RopeMind x = Ready.with(2);
        for (int k = 5; k >= 0; k--) {
            Ready.habit(x, 0, 0, k, 7);
            due("the least of " + k + " .. 5", x.at(0, 0, 1), k);
        }
        for (int k = 0; k < 6; k++) {
            Ready.habit(x, 0, 1, k, 7);
            due("the least of 0 .. " + k, x.at(0, 1, 1), 0);
        }
    }

    private static void noCallWithoutAHabit() {
        Check.part("CALL: none without one; of an untied PLACE");
        RopeMind x = Ready.with(2);
        due("none", x.at(0, 0, 1), N);
        x.tie(0, 0, 3, 0);
        due("TIED: NONE", x.at(0, 0, 1), N);
        due("TIED: no NEED", x.at(0, 0, 2), N);
        x.untie(0, 0);
        due("untied", x.at(0, 0, 1), 3);
        due("NEED", x.at(0, 0, 2), 97);
        x.days(3);
        due("forgotten", x.at(0, 0, 1), N);
        due("no NEED", x.at(0, 0, 2), N);
    }

    // What is held to bounds.

    private static void needWithoutALaw() {
        Check.part("NEED (none: 100 less HABIT)");
        RopeMind x = Ready.with(2);
        Ready.habit(x, 0, 0, 0, 1);
        due("of 1", x.at(0, 0, 2), 99);
        Ready.habit(x, 0, 1, 0, 99);
        due("of 99", x.at(0, 1, 2), 1);
        Ready.tell(x, 0, "tie 5 when habit=50;");
        due("if no line's B is so", x.at(0, 0, 2), 99);
    }

    private static int need(String law) {
        RopeMind x = Ready.with(2);
        Ready.habit(x, 0, 0, 0, 10);
        Ready.tell(x, 0, law);
        return x.at(0, 0, 2);
    }

    private static void needIsHeld() {
        Check.part("NEED: held to 0 .. 999");
        due("-1", need("tie 0-1;"), 0);
        due("0", need("tie 0;"), 0);
        due("1", need("tie 1;"), 1);
        due("998", need("tie 998;"), 998);
        due("999", need("tie 999;"), 999);
        due("1000", need("tie 1000;"), 999);
        due("far below", need("tie 0-9999*9999;"), 0);
        due("far above", need("tie 9999*9999;"), 999);
    }

    private static int loss(String law) {
        RopeMind x = Ready.with(2);
        Ready.habit(x, 0, 0, 0, 10);
        Ready.tell(x, 1, law);
        return x.habit(0, 0, 0, 2);
    }

    private static void lossIsHeld() {
        Check.part("LOSS: held to 0 .. 99");
        due("-1", loss("forget 0-1;"), 0);
        due("0", loss("forget 0;"), 0);
        due("1", loss("forget 1;"), 1);
        due("98", loss("forget 98;"), 98);
        due("99", loss("forget 99;"), 99);
        due("100", loss("forget 100;"), 99);
        due("far below", loss("forget 0-9999*9999;"), 0);
        due("far above", loss("forget 9999*9999;"), 99);
    }

    private static void lossWithoutALaw() {
        Check.part("LOSS (none: 1)");
        due("no line", loss(""), 1);
        due("no line's B is so", loss("forget 5 when 1=2; forget 6 when habit>10;"), 1);
    }

    private static int strength(String law) {
        RopeMind x = Ready.with(2);
        Ready.tell(x, 2, law);
        due("weak(0, 0) is the same", x.weak(0, 0), x.at(0, 0, 3));
        return x.at(0, 0, 3);
    }

    private static void strengthIsHeld() {
        Check.part("STRENGTH: held to 0 .. 999");
        due("-1", strength("hold 0-1;"), 0);
        due("0", strength("hold 0;"), 0);
        due("1", strength("hold 1;"), 1);
        due("998", strength("hold 998;"), 998);
        due("999", strength("hold 999;"), 999);
        due("1000", strength("hold 1000;"), 999);
        due("far below", strength("hold 0-9999*9999;"), 0);
        due("far above", strength("hold 9999*9999;"), 999);
    }

    private static void strengthWithoutALaw() {
        Check.part("STRENGTH (none: 90)");
        due("no line", strength(""), 90);
        due("no line's B is so", strength("hold 5 when 1=2; hold 6 when tied=1;"), 90);
    }

    // Lines.

    private static void theFirstLineThatIsSo() {
        Check.part("E of the first line whose B is so, or that has none");
        due("the first", need("tie 1; tie 2; tie 3;"), 1);
        due("the first without B", need("tie 1 when 1=2; tie 2; tie 3 when 1=1;"), 2);
        due("the first that is so", need("tie 1 when 1=2; tie 2 when 1=1; tie 3;"), 2);
        due("the last", need("tie 1 when 1=2; tie 2 when 1=2; tie 3 when 1=1;"), 3);
        due("the first of several", need("tie 1 when 1=1; tie 2 when 1=1;"), 1);
        due("an E of 0 counts", need("tie 0 when 1=1; tie 5;"), 0);
    }

    private static void signsOfComparing() {
        Check.part("C = E (< | = | >) E");
        for (int a = 9; a <= 11; a++) {
            due("habit 10 < " + a, need("tie 1 when habit<" + a + "; tie 2;"), 10 < a ? 1 : 2);
            due("habit 10 = " + a, need("tie 1 when habit=" + a + "; tie 2;"), 10 == a ? 1 : 2);
            due("habit 10 > " + a, need("tie 1 when habit>" + a + "; tie 2;"), 10 > a ? 1 : 2);
            due("not habit 10 > " + a, need("tie 1 when not habit>" + a + "; tie 2;"), 10 > a ? 2 : 1);
        }
        due("below 0", need("tie 1 when 0-1<0; tie 2;"), 1);
        due("0 and what is below it", need("tie 1 when 0-1>0-2; tie 2;"), 1);
        due("far apart, where a difference would wrap", need("tie 1 when 9999*9999*21>0-9999*9999*21; tie 2;"), 1);
    }

    private static void orAndNot() {
        Check.part("B = A {or A}. A = C {and C}. C = .. | not C | ( B )");
        orAndNotOf("1=2", "1=1");
        orAndNotOf("2<1", "1<2");
        orAndNotOf("1>2", "2>1");
        String deep = "1=2 or 1=1 and (".repeat(8) + "1=1" + ")".repeat(8);
        due("eight deep, with what is open on each", need("tie 1 when " + deep + "; tie 2;"), 1);
        due("the same, not so", need("tie 1 when " + deep.replace("(1=1)", "(1=2)") + "; tie 2;"), 2);
    }

    private static void orAndNotOf(String no, String yes) {
        String[] c = {no, yes};
        for (int i = 0; i < 8; i++) {
            boolean a = (i & 4) != 0;
            boolean b = (i & 2) != 0;
            boolean d = (i & 1) != 0;
            String x = c[i >> 2 & 1];
            String y = c[i >> 1 & 1];
            String z = c[i & 1];
            due("or, and", need("tie 1 when " + x + " or " + y + " and " + z + "; tie 2;"), a || b && d ? 1 : 2);
            due("and, or", need("tie 1 when " + x + " and " + y + " or " + z + "; tie 2;"), a && b || d ? 1 : 2);
            due("(or) and", need("tie 1 when (" + x + " or " + y + ") and " + z + "; tie 2;"), (a || b) && d ? 1 : 2);
            due("not, and", need("tie 1 when not " + x + " and " + y + "; tie 2;"), !a && b ? 1 : 2);
            due("not (or), and", need("tie 1 when not (" + x + " or " + y + ") and " + z + "; tie 2;"), !(a || b) && d ? 1 : 2);
            due("not not", need("tie 1 when not not " + x + " or " + y + "; tie 2;"), a || b ? 1 : 2);
            due("three ors", need("tie 1 when " + x + " or " + y + " or " + z + "; tie 2;"), a || b || d ? 1 : 2);
            due("three ands", need("tie 1 when " + x + " and " + y + " and " + z + "; tie 2;"), a && b && d ? 1 : 2);
        }
    }

    private static void numbersWrap() {
        Check.part("Ints, which wrap");
        // 9999 * 9999 * 21 is 2099580021, * 22 is 2199560022, which is 52076375 above the greatest int.
        due("just below", need("tie 1 when 9999*9999*21>0; tie 2;"), 1);
        due("a product wraps", need("tie 1 when 9999*9999*22<0; tie 2;"), 1);
        due("a sum wraps", need("tie 1 when 9999*9999*21+9999*9999<0; tie 2;"), 1);
        due("a difference wraps", need("tie 1 when 0-9999*9999*21-9999*9999>0; tie 2;"), 1);
        due("it is held behind the wrap: 0", need("tie 9999*9999*22;"), 0);
        due("it is held behind the wrap: 999", need("tie 0-9999*9999*22;"), 999);
        due("65536 * 65536 is 0", need("tie 1 when 4096*4096*256=0; tie 2;"), 1);
        due("32768 * 65536 is the least int", need("tie 1 when 4096*4096*128<0-9999*9999*21; tie 2;"), 1);
        due("one less than it is the greatest", need("tie 1 when 4096*4096*128-1>9999*9999*21; tie 2;"), 1);
        due("and back again", need("tie 4096*4096*128-1+1-4096*4096*128+7;"), 7);
    }

    private static void partsGoTowardsZero() {
        Check.part("/ goes towards 0");
        due("7 / 2", need("tie 7/2;"), 3);
        due("9999 / 9999", need("tie 9999/9999;"), 1);
        due("9998 / 9999", need("tie 9998/9999;"), 0);
        due("from left to right", need("tie 7/2*2;"), 6);
        due("times first", need("tie 7*2/2;"), 7);
        // 2199560022 wraps to -2095407274, by 9999: -209561.68; 199980 + 9590 more leaves 9.
        due("below 0 too", need("tie 9999*9999*22/9999+9999*20+9590;"), 9);
        due("the least int by 1", need("tie 1 when 4096*4096*128/1<0-9999*9999*21; tie 2;"), 1);
    }

    // What laws ask.

    /** Two ropes: of rope 1 each thing that is asked is as great as can be, of rope 0 as little. */
    private static RopeMind leastAndMost() {
        RopeMind x = Ready.with(2, 24);
        x.tie(1, 22, 1, 0);
        x.set(0, 5, 9);
        Ready.practise(x, 1, 23, 5, 11);
        x.set(0, 0, 1);
        Ready.practise(x, 0, 0, 0, 1);
        x.wet(1, 9);
        return x;
    }

    private static void whatTyingAsks() {
        Check.part("NEED: habit; age: DAY less SINCE; place; knot; tight; wet: of the ROPE; beside; ties");
        String[] asked = {"habit", "age", "place", "knot", "tight", "wet", "beside", "ties"};
        int[] least = {1, 0, 0, 0, 1, 0, 0, 0};
        int[] most = {99, 0, 23, 5, 9, 9, 1, 1};
        for (int i = 0; i < asked.length; i++) {
            RopeMind x = leastAndMost();
            Ready.tell(x, 0, "tie " + asked[i] + ";");
            due(asked[i] + ", little", x.at(0, 0, 2), least[i]);
            due(asked[i] + ", much", x.at(1, 23, 2), most[i]);
        }
        RopeMind y = Ready.onDay(0);
        Ready.tell(y, 1, "forget 0;");
        Ready.habit(y, 0, 0, 0, 10);
        Ready.tell(y, 0, "tie age;");
        due("age 0", y.at(0, 0, 2), 0);
        y.days(1);
        due("age 1", y.at(0, 0, 2), 1);
        Ready.tell(y, 3, "again 5(again 5(again 6(rest 30;)))");
        y.drill(0, 0);
        Ready.tell(y, 0, "tie age-4000;");
        due("age 4501", y.at(0, 0, 2), 501);
    }

    private static void besideAtTheEnds() {
        Check.part("beside: how many of the (at most two) PLACES beside it are TIED");
        RopeMind x = Ready.with(4);
        Ready.tell(x, 0, "tie beside;");
        Ready.tell(x, 1, "forget 0;");
        for (int place = 0; place < 4; place++) {
            Ready.habit(x, 0, place, 0, 10);
        }
        for (int set = 0; set < 16; set++) {
            RopeMind y = Ready.with(4);
            Ready.tell(y, 0, "tie beside+ties*10;");
            int ties = 0;
            for (int place = 0; place < 4; place++) {
                y.tie(0, place, 0, 0);
                if ((set >> place & 1) == 0) {
                    y.untie(0, place);
                } else {
                    ties++;
                }
            }
            for (int place = 0; place < 4; place++) {
                int beside = (set << 1 >> place & 1) + (set >> place + 1 & 1);
                boolean tied = (set >> place & 1) == 1;
                due("ties " + set + ", place " + place, y.at(0, place, 2), tied ? N : beside + ties * 10);
            }
        }
        due("none beside", x.at(0, 0, 2), 0);
        x.tie(0, 3, 0, 0);
        x.cut(0, 2);
        Ready.habit(x, 0, 1, 1, 10);
        due("what was cut off is not beside", x.at(0, 1, 2), 0);
    }

    private static void tiesOfAFullRope() {
        Check.part("ties: how many are TIED on the ROPE");
        RopeMind x = Ready.with(24, 2);
        for (int place = 0; place < 24; place++) {
            x.tie(0, place, 0, 0);
        }
        x.untie(0, 11);
        Ready.tell(x, 0, "tie ties;");
        due("23 of 24", x.at(0, 11, 2), 23);
        due("23 TIED", x.of(0, 4), 23);
        x.tie(1, 0, 0, 0);
        due("another ROPE's do not count", x.at(0, 11, 2), 23);
        x.untie(1, 0);
        due("nor these for it", x.at(1, 0, 2), 0);
    }

    private static void whatForgettingAsks() {
        Check.part("LOSS: habit | age | place | knot | tight | wet");
        String[] asked = {"habit", "age", "place", "knot", "tight", "wet"};
        int[] least = {1, 0, 0, 0, 1, 0};
        int[] most = {99, 0, 23, 5, 9, 9};
        for (int i = 0; i < asked.length; i++) {
            RopeMind x = leastAndMost();
            Ready.tell(x, 1, "forget " + asked[i] + ";");
            due(asked[i] + ", little", x.habit(0, 0, 0, 2), least[i]);
            due(asked[i] + ", much", x.habit(1, 23, 5, 2), most[i]);
        }
        RopeMind y = Ready.with(2);
        Ready.tell(y, 1, "forget 0 when age<3; forget 7;");
        Ready.habit(y, 0, 0, 0, 10);
        y.days(2);
        due("age 2", y.habit(0, 0, 0, 2), 0);
        y.days(1);
        due("age 3", y.habit(0, 0, 0, 2), 7);
        due("so much still", y.habit(0, 0, 0, 0), 10);
        y.days(1);
        due("7 less", y.habit(0, 0, 0, 0), 3);
    }

    private static void whatHoldingAsks() {
        Check.part("STRENGTH: tied: 1, 0; tight, cross: of the KNOT there (0: none); place; length; wet; habits");
        String[] asked = {"tied", "tight", "cross", "years", "place", "length", "wet", "habits"};
        int[] none = {0, 0, 0, 0, 0, 2, 0, 0};
        int[] most = {1, 9, 9, 0, 23, 24, 9, 594};
        for (int i = 0; i < asked.length; i++) {
            RopeMind x = Ready.with(2, 24);
            for (int k = 0; k < 6; k++) {
                Ready.habit(x, 1, 23, k, 99);
            }
            x.set(0, 5, 9);
            x.set(1, 5, 9);
            x.tie(1, 23, 5, 0);
            x.wet(1, 9);
            Ready.tell(x, 2, "hold " + asked[i] + ";");
            due(asked[i] + " without a KNOT", x.at(0, 0, 3), none[i]);
            due(asked[i] + " with one", x.at(1, 23, 3), most[i]);
        }
        RopeMind y = Ready.with(2);
        y.set(0, 0, 5);
        y.set(1, 0, 7);
        y.tie(0, 0, 0, 0);
        Ready.tell(y, 2, "hold tied*100+tight*10+cross;");
        due("KNOT 0 counts", y.at(0, 0, 3), 157);
        y.set(1, 0, 0);
        due("as it is set now", y.at(0, 0, 3), 150);
        y.untie(0, 0);
        due("untied", y.at(0, 0, 3), 0);
        Ready.tell(y, 2, "hold habits;");
        due("HABITS stay", y.at(0, 0, 3), 5);
    }

    private static void yearsAreOf365Days() {
        Check.part("years: DAY less BORN by 365 (quotients go downwards)");
        int[] days = {0, 364, 365, 729, 730, 9999};
        int[] years = {0, 0, 1, 1, 2, 27};
        for (int i = 0; i < days.length; i++) {
            RopeMind x = Ready.onDay(days[i]);
            Ready.tell(x, 2, "hold years;");
            due("DAY " + days[i], x.at(0, 0, 3), years[i]);
            x.rope(2, 0);
            due("of one that is born now", x.at(1, 0, 3), 0);
        }
        RopeMind late = Ready.onDay(100);
        late.rope(2, 0);
        Ready.tell(late, 2, "hold years;");
        for (int i = 0; i < 6; i++) {
            late.days(60);
        }
        late.days(4);
        due("364 days old", late.at(1, 0, 3), 0);
        due("the older one", late.at(0, 0, 3), 1);
        late.days(1);
        due("365 days old", late.at(1, 0, 3), 1);
    }

    private static void sixteenLinesAreRead() {
        Check.part("the 16th line is one, too");
        StringBuilder law = new StringBuilder();
        for (int i = 0; i < 16; i++) {
            law.append("tie ").append(i + 1).append(" when place=").append(i).append(";");
        }
        RopeMind x = Ready.with(24);
        for (int place = 0; place < 17; place++) {
            Ready.practise(x, 0, place, 0, 1);
        }
        Ready.tell(x, 0, law.toString());
        for (int place = 0; place < 17; place++) {
            due("place " + place, x.at(0, place, 2), place < 16 ? place + 1 : 97);
        }
    }

    private static void lawsAsLongAsTheTape() {
        Check.part("laws as long as the TAPE say what they say");
        due("197 sums", need("tie 0" + "+1".repeat(197) + ";"), 197);
        due("197 differences", need("tie 900" + "-1".repeat(190) + ";"), 710);
        due("190 products", need("tie 3" + "*1".repeat(190) + ";"), 3);
        due("55 ors", need("tie 1 when 1=2" + " or 1=2".repeat(53) + " or 1=1; tie 2;"), 1);
        due("55 ors, none so", need("tie 1 when 1=2" + " or 1=2".repeat(53) + "; tie 2;"), 2);
        due("45 ands", need("tie 1 when 1=1" + " and 1=1".repeat(44) + "; tie 2;"), 1);
        due("45 ands, the last not so", need("tie 1 when 1=1" + " and 1=1".repeat(44) + " and 1=2; tie 2;"), 2);
        String deep = "1=2 or 1=1 and (".repeat(8) + "1+1*2=3" + ")".repeat(8);
        due("15 lines that are not so ahead of the deepest", need("tie1when1=2;".repeat(15) + "tie 3 when " + deep + ";"), 3);
    }

    private static void aLawLeavesNothingOfAnother() {
        Check.part("The TAPE is TEXT k: nothing is left of what it was");
        RopeMind x = Ready.with(2);
        Ready.habit(x, 0, 0, 0, 10);
        Ready.tell(x, 0, "tie 1+2+3;");
        due("6", x.at(0, 0, 2), 6);
        Ready.tell(x, 0, "tie 5 when 1=2;");
        due("no line is so", x.at(0, 0, 2), 90);
        Ready.tell(x, 0, "tie 1;tie 2;tie 3;");
        Ready.tell(x, 0, "");
        due("no line", x.at(0, 0, 2), 90);
        Check.tell(x, 0, "tie 1;tie 2;tie 3;tie");
        due("nor of a faulty one", x.at(0, 0, 2), 90);
    }
}

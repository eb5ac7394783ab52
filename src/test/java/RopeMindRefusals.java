import java.util.ArrayList;
import java.util.List;
import java.util.function.Consumer;
import java.util.function.Supplier;
import java.util.function.ToIntFunction;

/** Every call that is refused: what it answers, and that it changes nothing; nor does any question or thought. */
public final class RopeMindRefusals {
    private static final int N = Ready.N;
    private static final int[] FAR = {Ready.LOW, Ready.LOW + 1, Ready.HIGH - 1, Ready.HIGH};
    private static final int BATCH = 120;

    private record Refused(String name, ToIntFunction<RopeMind> call, int answer) { }

    private final List<Refused> refused = new ArrayList<>();

    private RopeMindRefusals() { }

    public static void main(String[] args) {
        refusedActs().check("refused acts", RopeMindRefusals::rich);
        refusedQuestions().check("refused questions", RopeMindRefusals::rich);
        refusedByFullness().check("refused, for it is full", RopeMindRefusals::full);
        refusedWhereNothingIs().check("refused, for nothing is there", RopeMind::new);
        questionsChangeNothing();
        theTwinsDiffer();
        Check.end();
    }

    private void add(String name, int answer, ToIntFunction<RopeMind> call) {
        refused.add(new Refused(name, call, answer));
    }

    /** In batches, so that no object is called more than 512 times. */
    private void check(String part, Supplier<RopeMind> made) {
        Check.part(part);
        for (int from = 0; from < refused.size(); from += BATCH) {
            List<Refused> batch = refused.subList(from, Math.min(refused.size(), from + BATCH));
            RopeMind x = made.get();
            for (Refused r : batch) {
                Check.due(r.name, r.call.applyAsInt(x), r.answer);
            }
            Twins.alike("after refusals from " + batch.get(0).name, made, () -> {
                RopeMind y = made.get();
                batch.forEach(r -> r.call.applyAsInt(y));
                return y;
            });
        }
    }

    /** Ropes 0, 1, 2 of 6, 4 and 20 places, something of everything, five acts that can be undone. */
    private static RopeMind rich() {
        RopeMind x = Ready.with(6, 4, 20);
        x.set(0, 1, 9);
        x.set(1, 1, 7);
        x.set(2, 0, 700);
        Check.tell(x, 0, "tie 90-habit*2 when beside=0; tie 60-ties;");
        Check.tell(x, 1, "forget 2 when knot=1; forget 1;");
        Check.tell(x, 2, "hold 60-tight*3 when tied=1; hold 70+place;");
        Check.tell(x, 3, "tie 1 at 0; untie 0; again 2(pull 40; wet 3;) rest 1;");
        Check.tell(x, 4, "oout");
        Check.tell(x, 6, "tou");
        x.told(60, 1);
        x.told(20, N);
        x.order(6);
        x.order(5);
        Ready.practise(x, 0, 2, 1, 3);
        Ready.practise(x, 1, 3, 4, 2);
        x.image(true);
        x.state(12345);
        x.tie(0, 4, 0, 5);
        x.tie(2, 19, 5, 6);
        x.sell(1, 8);
        x.wet(2, 4);
        x.days(1);
        Check.tell(x, 5, "ox");
        Check.tape(x, "tie 11; tie 12;");
        return x;
    }

    /** Everything that can be full is: ropes, lines, days, told pulls, orders, the tape. */
    private static RopeMind full() {
        RopeMind x = Ready.onDay(9999);
        for (int i = 1; i < 8; i++) {
            x.rope(3 * i, i);
        }
        for (int i = 0; i < 7; i++) {
            x.told(10 * i, N);
            x.order(i + 1);
        }
        Ready.tell(x, 3, "again 5(again 5(again 3(tie 1 at 0; untie 0;)))");
        for (int i = 0; i < 3; i++) {
            x.drill(0, 2 + i);
        }
        Check.due("the book is full", x.look(3), 200);
        Ready.tell(x, 3, "wet 1; rest 1;");
        for (int i = 0; i < 20; i++) {
            x.feed(0x20202020, 0x6f202020, i, 0, 0);
        }
        return x;
    }

    private static int bit(boolean answer) {
        return answer ? 1 : 0;
    }

    /** Numbers that are no rope of the rich object. */
    private static int[] noRopes() {
        return new int[] {-1, 3, 7, 8, FAR[0], FAR[3]};
    }

    private static RopeMindRefusals refusedActs() {
        RopeMindRefusals all = new RopeMindRefusals();
        all.refusedRopesAndSettings();
        all.refusedTies();
        all.refusedPullsAndWetting();
        all.refusedCutsAndSplices();
        all.refusedDaysAndTexts();
        return all;
    }

    private void refusedRopesAndSettings() {
        for (int v : new int[] {-1, 0, 1, 25, FAR[0], FAR[3]}) {
            add("rope(" + v + ", 0)", N, x -> x.rope(v, 0));
        }
        for (int v : new int[] {-1, 10, FAR[0], FAR[3]}) {
            add("rope(5, " + v + ")", N, x -> x.rope(5, v));
            add("set(0, 0, " + v + ")", 0, x -> bit(x.set(0, 0, v)));
            add("set(1, 0, " + v + ")", 0, x -> bit(x.set(1, 0, v)));
            add("sell(0, " + v + ")", 0, x -> bit(x.sell(0, v)));
            add("wet(0, " + v + ")", 0, x -> bit(x.wet(0, v)));
        }
        add("set(0, 0, 0)", 0, x -> bit(x.set(0, 0, 0)));
        for (int v : new int[] {-1, 6, FAR[0], FAR[3]}) {
            add("set(0, " + v + ", 5)", 0, x -> bit(x.set(0, v, 5)));
            add("set(1, " + v + ", 5)", 0, x -> bit(x.set(1, v, 5)));
        }
        for (int v : new int[] {-1, 1001, FAR[0], FAR[3]}) {
            add("set(2, 0, " + v + ")", 0, x -> bit(x.set(2, 0, v)));
        }
        for (int v : new int[] {-1, 3, FAR[0], FAR[3]}) {
            add("set(" + v + ", 0, 5)", 0, x -> bit(x.set(v, 0, 5)));
        }
    }

    private void refusedTies() {
        for (int v : noRopes()) {
            add("tie(" + v + ", 0, 0, 0)", 0, x -> bit(x.tie(v, 0, 0, 0)));
            add("untie(" + v + ", 4)", N, x -> x.untie(v, 4));
        }
        for (int v : new int[] {-1, 6, 23, 24, FAR[0], FAR[3]}) {
            add("tie(0, " + v + ", 0, 0)", 0, x -> bit(x.tie(0, v, 0, 0)));
            add("untie(0, " + v + ")", N, x -> x.untie(0, v));
        }
        for (int v : new int[] {-1, 6, FAR[0], FAR[3]}) {
            add("tie(0, 0, " + v + ", 0)", 0, x -> bit(x.tie(0, 0, v, 0)));
        }
        for (int v : new int[] {-1, 10, FAR[0], FAR[3]}) {
            add("tie(0, 0, 0, " + v + ")", 0, x -> bit(x.tie(0, 0, 0, v)));
        }
        add("tie where one is TIED", 0, x -> bit(x.tie(0, 4, 1, 1)));
        add("untie where none is TIED", N, x -> x.untie(0, 2));
        add("untie(2, 4)", N, x -> x.untie(2, 4));
    }

    private void refusedPullsAndWetting() {
        for (int v : noRopes()) {
            add("pull(" + v + ", 99)", N, x -> x.pull(v, 99));
            add("wet(" + v + ", 5)", 0, x -> bit(x.wet(v, 5)));
            add("sell(" + v + ", 5)", 0, x -> bit(x.sell(v, 5)));
            add("drill(" + v + ", 5)", N, x -> x.drill(v, 5));
        }
        for (int v : new int[] {-1, 100, FAR[0], FAR[3]}) {
            add("pull(0, " + v + ")", N, x -> x.pull(0, v));
        }
        for (int v : new int[] {-1, 10, FAR[0], FAR[3]}) {
            add("drill(0, " + v + ")", N, x -> x.drill(0, v));
        }
        add("sell to its OWNER", 0, x -> bit(x.sell(0, 1)));
        add("sell to its new OWNER", 0, x -> bit(x.sell(1, 8)));
    }

    private void refusedCutsAndSplices() {
        for (int v : noRopes()) {
            add("cut(" + v + ", 2)", N, x -> x.cut(v, 2));
            add("splice(" + v + ", 0)", N, x -> x.splice(v, 0));
            add("splice(0, " + v + ")", N, x -> x.splice(0, v));
            add("splice(" + v + ", " + v + ")", N, x -> x.splice(v, v));
        }
        for (int v : new int[] {-1, 0, 1, 5, 6, FAR[0], FAR[3]}) {
            add("cut(0, " + v + ")", N, x -> x.cut(0, v));
        }
        for (int v : new int[] {1, 3}) {
            add("cut(1, " + v + ")", N, x -> x.cut(1, v));
        }
        add("splice(0, 0)", N, x -> x.splice(0, 0));
        add("splice(0, 2)", N, x -> x.splice(0, 2));
        add("splice(2, 0)", N, x -> x.splice(2, 0));
    }

    private void refusedDaysAndTexts() {
        for (int v : new int[] {-1, 0, 61, FAR[0], FAR[3]}) {
            add("days(" + v + ")", N, x -> x.days(v));
        }
        for (int v : new int[] {-1, 16, 400, 401, FAR[0], FAR[3]}) {
            add("end(" + v + ")", 0, x -> bit(x.end(v)));
        }
        for (int v : new int[] {-2, 100, FAR[0], FAR[3]}) {
            add("told(" + v + ", 0)", N, x -> x.told(v, 0));
        }
        for (int v : new int[] {-2, 6, FAR[0], FAR[3]}) {
            add("told(0, " + v + ")", N, x -> x.told(0, v));
        }
        for (int v : new int[] {-2, 0, 25, FAR[0], FAR[3]}) {
            add("order(" + v + ")", N, x -> x.order(v));
        }
    }

    private static RopeMindRefusals refusedQuestions() {
        RopeMindRefusals all = new RopeMindRefusals();
        all.refusedRopesOfQuestions();
        all.refusedPlacesOfQuestions();
        all.refusedWhats();
        all.refusedShapes();
        return all;
    }

    private void refusedRopesOfQuestions() {
        for (int v : noRopes()) {
            add("of(" + v + ", 0)", N, x -> x.of(v, 0));
            add("at(" + v + ", 0, 0)", N - 1, x -> x.at(v, 0, 0));
            add("habit(" + v + ", 0, 0, 0)", N - 1, x -> x.habit(v, 0, 0, 0));
            add("would(" + v + ", 0, 0)", N - 1, x -> x.would(v, 0, 0));
            add("least(" + v + ", 0)", N, x -> x.least(v, 0));
            add("train(" + v + ", 0, 0, 99)", N, x -> x.train(v, 0, 0, 99));
            add("fits(" + v + ", 0, 0)", N, x -> x.fits(v, 0, 0));
            add("weak(" + v + ", 0)", N, x -> x.weak(v, 0));
        }
        for (int v : new int[] {-1, 8, FAR[0], FAR[3]}) {
            add("whose(" + v + ", 0, 0)", N - 1, x -> x.whose(v, 0, 0));
            add("whose(" + v + ", 0, 1)", N - 1, x -> x.whose(v, 0, 1));
        }
    }

    private void refusedPlacesOfQuestions() {
        for (int v : new int[] {-1, 6, 23, 24, FAR[0], FAR[1], FAR[2], FAR[3]}) {
            add("at(0, " + v + ", 0)", N - 1, x -> x.at(0, v, 0));
            add("habit(0, " + v + ", 0, 0)", N - 1, x -> x.habit(0, v, 0, 0));
            add("habit(0, 0, " + (v == 23 ? 7 : v) + ", 0)", N - 1, x -> x.habit(0, 0, v == 23 ? 7 : v, 0));
            add("train(0, " + v + ", 0, 99)", N, x -> x.train(0, v, 0, 99));
            add("train(0, 0, " + v + ", 99)", N, x -> x.train(0, 0, v, 99));
            add("fits(0, " + v + ", 0)", N, x -> x.fits(0, v, 0));
        }
        for (int v : new int[] {-1, 100, FAR[0], FAR[3]}) {
            add("would(0, " + v + ", 0)", N - 1, x -> x.would(0, v, 0));
            add("train(0, 0, 0, " + v + ")", N, x -> x.train(0, 0, 0, v));
        }
        add("train where one is TIED", N, x -> x.train(0, 4, 0, 99));
        add("fits where one is TIED", N, x -> x.fits(0, 4, 0));
        for (int v : new int[] {-1, 24, FAR[0], FAR[3]}) {
            add("whose(0, " + v + ", 0)", N - 1, x -> x.whose(0, v, 0));
        }
        for (int v : new int[] {-1, 200, FAR[0], FAR[3]}) {
            add("book(" + v + ", 0)", N - 1, x -> x.book(v, 0));
        }
        for (int v : new int[] {21, 25, FAR[2], FAR[3]}) {
            add("ladder(" + v + ")", N, x -> x.ladder(v));
        }
    }

    private void refusedWhats() {
        for (int far : FAR) {
            refusedWhat(far);
        }
        refusedWhat(-1);
        add("fault(2)", N, x -> x.fault(2));
        add("of(0, 6)", N, x -> x.of(0, 6));
        add("at(0, 0, 4)", N - 1, x -> x.at(0, 0, 4));
        add("habit(0, 0, 0, 3)", N - 1, x -> x.habit(0, 0, 0, 3));
        add("book(0, 6)", N - 1, x -> x.book(0, 6));
        add("would(0, 0, 4)", N - 1, x -> x.would(0, 0, 4));
        add("least(0, 2)", N, x -> x.least(0, 2));
        add("fits(0, 0, 4)", N, x -> x.fits(0, 0, 4));
        add("weak(0, 2)", N, x -> x.weak(0, 2));
        add("whose(0, 0, 2)", N - 1, x -> x.whose(0, 0, 2));
        for (int v : new int[] {1, 9, 12}) {
            add("yard(" + v + ")", N, x -> x.yard(v));
        }
        for (int v : new int[] {12, 19, 26, 29, 36}) {
            add("look(" + v + ")", N, x -> x.look(v));
        }
    }

    private void refusedWhat(int v) {
        add("fault(" + v + ")", N, x -> x.fault(v));
        add("of(0, " + v + ")", N, x -> x.of(0, v));
        add("at(0, 0, " + v + ")", N - 1, x -> x.at(0, 0, v));
        add("habit(0, 0, 0, " + v + ")", N - 1, x -> x.habit(0, 0, 0, v));
        add("book(0, " + v + ")", N - 1, x -> x.book(0, v));
        add("would(0, 0, " + v + ")", N - 1, x -> x.would(0, 0, v));
        add("least(0, " + v + ")", N, x -> x.least(0, v));
        add("fits(0, 0, " + v + ")", N, x -> x.fits(0, 0, v));
        add("weak(0, " + v + ")", N, x -> x.weak(0, v));
        add("yard(" + v + ")", N, x -> x.yard(v));
        add("shape(0, " + v + ")", N - 99, x -> x.shape(0, v));
        add("whose(0, 0, " + v + ")", N - 1, x -> x.whose(0, 0, v));
        add("look(" + v + ")", N, x -> x.look(v));
    }

    private void refusedShapes() {
        for (int v : new int[] {-1, 4, FAR[0], FAR[3]}) {
            add("moves(" + v + ", 0)", N, x -> x.moves(v, 0));
            add("moves(0, " + v + ")", N, x -> x.moves(0, v));
            add("unlike(" + v + ", 0)", N, x -> x.unlike(v, 0));
            add("unlike(0, " + v + ")", N, x -> x.unlike(0, v));
            add("shape(" + v + ", 0)", N - 99, x -> x.shape(v, 0));
        }
        for (int v : new int[] {3, 9, 14}) {
            add("shape(0, " + v + ")", N - 99, x -> x.shape(0, v));
        }
        add("shape(1, 10)", N - 99, x -> x.shape(1, 10));
    }

    private static RopeMindRefusals refusedByFullness() {
        RopeMindRefusals all = new RopeMindRefusals();
        all.add("a ninth rope", N, x -> x.rope(2, 0));
        all.add("a seventh told pull", N, x -> x.told(5, N));
        all.add("an eighth order", N, x -> x.order(1));
        all.add("a day more", N, x -> x.days(1));
        all.add("60 days more", N, x -> x.days(60));
        all.add("a drill with a rest", N, x -> x.drill(0, 0));
        all.add("more bytes", N, x -> x.feed(0, 0, 0, 0, 0));
        all.add("end(401)", 0, x -> bit(x.end(401)));
        all.add("book(200, 0)", N - 1, x -> x.book(200, 0));
        all.add("yard(17)", N, x -> x.yard(17));
        all.add("splice(7, 6)", N, x -> x.splice(7, 6));
        return all;
    }

    private static RopeMindRefusals refusedWhereNothingIs() {
        RopeMindRefusals all = new RopeMindRefusals();
        all.add("undo()", 0, x -> bit(x.undo()));
        all.add("image(false)", 0, x -> bit(x.image(false)));
        all.add("end(1)", 0, x -> bit(x.end(1)));
        all.add("tie", 0, x -> bit(x.tie(0, 0, 0, 0)));
        all.add("untie", N, x -> x.untie(0, 0));
        all.add("pull", N, x -> x.pull(0, 0));
        all.add("wet", 0, x -> bit(x.wet(0, 0)));
        all.add("cut", N, x -> x.cut(0, 2));
        all.add("splice", N, x -> x.splice(0, 1));
        all.add("sell", 0, x -> bit(x.sell(0, 0)));
        all.add("drill", N, x -> x.drill(0, 0));
        all.add("ladder", N, x -> x.ladder(2));
        all.add("book", N - 1, x -> x.book(0, 0));
        all.add("yard(10)", N, x -> x.yard(10));
        all.add("shape(0, 10)", N - 99, x -> x.shape(0, 10));
        return all;
    }

    private static void askMuch(RopeMind x) {
        for (int rope = 0; rope < 3; rope++) {
            for (int what = 0; what < 4; what++) {
                x.of(rope, what);
                x.at(rope, 2, what);
                x.habit(rope, 2, 1, what);
                x.would(rope, 99, what);
                x.fits(rope, 2, what);
                x.least(rope, what);
                x.weak(rope, what);
                x.whose(rope, 2, what);
                x.book(rope, what);
                x.yard(10 + what);
                x.shape(rope, what);
                x.moves(rope, what);
                x.unlike(rope, what);
                x.train(rope, what, 1, 30);
                x.look(rope * 10 + what);
            }
        }
        x.ladder(2);
        x.yard(0);
        x.fault(0);
    }

    private static void questionsChangeNothing() {
        Check.part("IN THOUGHT (nothing of it stays), nor of any question");
        Twins.alike("after many questions", RopeMindRefusals::rich, () -> {
            RopeMind x = rich();
            askMuch(x);
            return x;
        });
    }

    /** The comparing itself: each of these calls is one, and must be seen by some round of questions. */
    private static void theTwinsDiffer() {
        List<Consumer<RopeMind>> calls = List.of(x -> x.end(3), x -> x.told(5, 5), x -> x.order(24), x -> x.tie(1, 2, 3, 4),
                x -> x.set(0, 5, 4), x -> x.state(1), x -> x.image(true), x -> x.undo(), x -> x.feed(0, 0, 0, 0, 0));
        int before = Check.wrong();
        for (Consumer<RopeMind> call : calls) {
            int seen = Check.quietly(() -> Twins.alike("", RopeMindRefusals::rich, () -> {
                RopeMind x = rich();
                call.accept(x);
                return x;
            }));
            Check.due("a call that changes something is seen", seen > 0, true);
        }
        Check.due("quietly leaves no mark", Check.wrong(), before);
    }
}

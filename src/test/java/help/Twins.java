import java.util.ArrayList;
import java.util.List;
import java.util.function.Consumer;
import java.util.function.Supplier;

/**
 * Asks two objects everything that can be asked of them, and tells where they differ. Each round of questions has
 * objects of its own, so that none is called more often than 512 times and no round disturbs another.
 */
final class Twins {
    private final List<Integer> answers = new ArrayList<>();
    private final RopeMind x;

    private Twins(RopeMind x) {
        this.x = x;
    }

    static void alike(String name, Supplier<RopeMind> one, Supplier<RopeMind> other) {
        for (int round = 0; round < rounds().size(); round++) {
            Twins a = new Twins(one.get());
            Twins b = new Twins(other.get());
            rounds().get(round).accept(a);
            rounds().get(round).accept(b);
            Check.due(name + ", round " + round + ": how many answers", a.answers.size(), b.answers.size());
            for (int i = 0; i < Math.min(a.answers.size(), b.answers.size()); i++) {
                Check.due(name + ", round " + round + ", question " + i, a.answers.get(i), b.answers.get(i));
            }
        }
    }

    private static List<Consumer<Twins>> rounds() {
        List<Consumer<Twins>> all = new ArrayList<>(List.of(Twins::world, Twins::thoughts, Twins::wouldBe, Twins::pasts,
                Twins::owners, Twins::undone, Twins::allUndone, Twins::imageBack, Twins::imagePlaces, Twins::drilled,
                Twins::nextDays, Twins::tape, Twins::tapeAsLaw, Twins::toldMore));
        for (int rope = 0; rope < 8; rope++) {
            int n = rope;
            all.add(t -> t.places(n, 0, 12));
            all.add(t -> t.places(n, 12, 24));
        }
        for (int i = 0; i < 200; i += 40) {
            int from = i;
            all.add(t -> t.lines(from, from + 40));
        }
        return all;
    }

    private void tell(int answer) {
        answers.add(answer);
    }

    private void tell(boolean answer) {
        answers.add(answer ? 1 : 0);
    }

    private void world() {
        for (int what = 0; what < 36; what++) {
            tell(x.look(what));
        }
        for (int rope = 0; rope < 8; rope++) {
            for (int what = 0; what < 6; what++) {
                tell(x.of(rope, what));
            }
        }
        tell(x.fault(0));
        tell(x.fault(1));
    }

    private void places(int rope, int from, int to) {
        for (int place = from; place < to; place++) {
            for (int what = 0; what < 4; what++) {
                tell(x.at(rope, place, what));
            }
            for (int i = 0; i < 18; i++) {
                tell(x.habit(rope, place, i / 3, i % 3));
            }
        }
    }

    private void lines(int from, int to) {
        for (int i = from; i < to; i++) {
            for (int what = 0; what < 6; what++) {
                tell(x.book(i, what));
            }
        }
    }

    private void thoughts() {
        for (int rope = 0; rope < 8; rope++) {
            for (int what = 0; what < 2; what++) {
                tell(x.weak(rope, what));
                tell(x.least(rope, what));
            }
        }
        for (int length = 2; length < 25; length++) {
            tell(x.ladder(length));
        }
        for (int what = 9; what < 18; what++) {
            tell(x.yard(what == 9 ? 0 : what));
        }
        for (int a = 0; a < 4; a++) {
            for (int b = 0; b < 4; b++) {
                tell(x.moves(a, b));
                tell(x.unlike(a, b));
            }
            for (int what = 0; what < 17; what++) {
                tell(x.shape(a, what));
            }
        }
    }

    private void wouldBe() {
        for (int rope = 0; rope < 8; rope++) {
            for (int force : new int[] {0, 20, 40, 60, 80, 99}) {
                for (int what = 0; what < 4; what++) {
                    tell(x.would(rope, force, what));
                }
            }
        }
    }

    private void pasts() {
        for (int rope = 0; rope < 8; rope++) {
            for (int place = 0; place < 4; place++) {
                for (int what = 0; what < 4; what++) {
                    tell(x.fits(rope, place, what));
                }
                tell(x.train(rope, place, 0, 60));
            }
        }
    }

    private void owners() {
        for (int rope = 0; rope < 8; rope++) {
            for (int place = 0; place < 24; place++) {
                tell(x.whose(rope, place, 0));
            }
            tell(x.whose(rope, 0, 1));
        }
    }

    private void undone() {
        for (int i = 0; i < 6; i++) {
            tell(x.undo());
            for (int rope = 0; rope < 8; rope++) {
                for (int what = 0; what < 6; what += 5) {
                    tell(x.of(rope, what));
                }
            }
            for (int what = 0; what < 12; what++) {
                tell(x.look(what));
            }
        }
    }

    private void knots() {
        for (int rope = 0; rope < 8; rope++) {
            for (int place = 0; place < 24; place++) {
                tell(x.at(rope, place, 0));
            }
        }
    }

    private void allUndone() {
        for (int i = 0; i < 5; i++) {
            tell(x.undo());
        }
        knots();
    }

    private void imageBack() {
        tell(x.image(false));
        world();
    }

    private void imagePlaces() {
        tell(x.image(false));
        knots();
    }

    private void drilled() {
        for (int rope = 0; rope < 8; rope++) {
            tell(x.drill(rope, 3));
        }
        world();
    }

    private void nextDays() {
        for (int i = 0; i < 5; i++) {
            tell(x.days(1));
            tell(x.look(4));
        }
        world();
    }

    /** How many bytes the tape has, and what they are as a shape. */
    private void tape() {
        int many = x.feed(0, 0, 0, 0, 0);
        tell(many);
        for (int n = 400; n >= 381 && many < 0; n--) {
            tell(x.end(n));
        }
        if (many >= 20) {
            tell(x.end(many - 20));
        }
        tell(x.text(4));
        tell(x.fault(0));
        tell(x.fault(1));
    }

    private void tapeAsLaw() {
        tell(x.text(0));
        tell(x.fault(0));
        tell(x.fault(1));
        for (int place = 0; place < 24; place++) {
            tell(x.at(0, place, 2));
        }
    }

    private void toldMore() {
        tell(x.told(50, 1));
        tell(x.order(3));
        tell(x.yard(0));
        tell(x.fits(0, 0, 0));
        tell(x.rope(2, 0));
        tell(x.look(9));
    }
}

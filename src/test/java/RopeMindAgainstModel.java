import java.util.Random;

/** Long runs of calls, made by numbers, on a RopeMind and on the naive model: both must answer the same. */
public final class RopeMindAgainstModel {
    private static final int RUNS = 400;
    private static final int CALLS = 500;
    private static final int SHAPE_PAIRS = 400;

    private final Random r;
    private final Texts texts;
    private final RopeMind x = new RopeMind();
    private final Model m = new Model();
    private final boolean stormy;

    private RopeMindAgainstModel(int seed) {
        r = new Random(seed);
        texts = new Texts(r);
        stormy = r.nextInt(3) == 0;
    }

    public static void main(String[] args) {
        for (int seed = 1; seed <= RUNS && Check.wrong() < 20; seed++) {
            Check.part("run " + seed);
            new RopeMindAgainstModel(seed).run();
        }
        Check.part("moves");
        for (int i = 0; i < SHAPE_PAIRS && Check.wrong() < 20; i++) {
            compareMoves(new Random(i));
        }
        Check.end();
    }

    /** Two shapes that have the same marks, so that some way leads from the one to the other. */
    private static void compareMoves(Random r) {
        RopeMind x = new RopeMind();
        Model m = new Model();
        for (int k = 4; k < 6; k++) {
            String text;
            do {
                StringBuilder b = new StringBuilder();
                int n = 3 + r.nextInt(5);
                for (int i = 0; i < n; i++) {
                    b.append("out".charAt(r.nextInt(3)));
                }
                text = b.toString();
            } while (k == 5 && (m.mark(text, 1) != m.mark(m.lore.shapes[0], 1) || m.mark(text, 2) != m.mark(m.lore.shapes[0], 2)));
            Check.tell(x, k, text);
            m.lore.shapes[k - 4] = text;
        }
        Check.due("moves from " + m.lore.shapes[0] + " to " + m.lore.shapes[1], x.moves(0, 1), m.moves(0, 1));
    }

    private void run() {
        for (int i = 0; i < 4; i++) {
            if (r.nextInt(3) > 0) {
                tellText();
            }
        }
        for (int i = 0; i < 3; i++) {
            makeRope();
        }
        for (int i = 0; i < CALLS && Check.wrong() < 20; i++) {
            call();
            if (i % 25 == 24) {
                compareAll();
            }
        }
        compareAll();
    }

    private int rope() {
        int there = m.look(0);
        if (there != 0 && r.nextInt(12) > 0) {
            for (int i = r.nextInt(8); ; i = (i + 1) % 8) {
                if ((there >> i & 1) == 1) {
                    return i;
                }
            }
        }
        return r.nextInt(11) - 1;
    }

    private int place(int rope) {
        int length = m.of(rope, 0);
        if (r.nextInt(12) == 0 || length < 1) {
            return r.nextInt(28) - 2;
        }
        return r.nextInt(3) == 0 ? r.nextInt(Math.min(3, length)) : r.nextInt(length);
    }

    private int knot() {
        return r.nextInt(25) == 0 ? r.nextInt(9) - 1 : r.nextInt(r.nextBoolean() ? 3 : 6);
    }

    private int force() {
        return r.nextInt(25) == 0 ? r.nextInt(140) - 20 : r.nextInt(100);
    }

    private int hand() {
        return r.nextInt(25) == 0 ? r.nextInt(14) - 2 : r.nextInt(10);
    }

    private int what(int many) {
        return r.nextInt(many + 2) - 1 + (r.nextInt(40) == 0 ? 7 : 0);
    }

    private void makeRope() {
        int length = r.nextInt(10) == 0 ? r.nextInt(28) : 2 + r.nextInt(r.nextBoolean() ? 23 : 7);
        int owner = hand();
        Check.due("rope(" + length + ", " + owner + ")", x.rope(length, owner), m.rope(length, owner));
    }

    private void tellText() {
        int k = r.nextInt(15) == 0 ? r.nextInt(12) - 2 : r.nextInt(8);
        String text = k < 0 || k > 7 ? "o" : k < 3 ? texts.law(k) : k == 3 ? texts.drill() : texts.shape();
        for (int i = 0; i < text.length(); i += 20) {
            int[] v = Check.numbers(text, i);
            Check.due("feed", x.feed(v[0], v[1], v[2], v[3], v[4]), m.feed(v[0], v[1], v[2], v[3], v[4]));
        }
        int n = r.nextInt(30) == 0 ? r.nextInt(500) - 50 : m.tape.length() % 20 == 0 && text.length() > 0
                ? m.tape.length() - (20 - text.length() % 20) % 20 : text.length();
        Check.due("end(" + n + ")", x.end(n), m.end(n));
        Check.due("text(" + k + ") '" + m.tape + "'", x.text(k), m.text(k));
        Check.due("fault(0) '" + text + "'", x.fault(0), m.fault(0));
        Check.due("fault(1) '" + text + "'", x.fault(1), m.fault(1));
    }

    private void call() {
        int kind = r.nextInt(100);
        if (kind < 30) {
            act(kind);
        } else if (kind < 60) {
            tieOrUntie();
        } else if (kind < 64) {
            tellText();
        } else if (kind < 67) {
            tellWorld();
        } else if (kind < 72) {
            goBack();
        } else if (kind < 78) {
            tellThoughts();
        } else {
            ask();
            think();
        }
    }

    private void tieOrUntie() {
        int n = rope();
        int p = place(n);
        if (r.nextInt(5) < 3) {
            int k = knot();
            int h = hand();
            Check.due("tie(" + n + ", " + p + ", " + k + ", " + h + ")", x.tie(n, p, k, h), m.tie(n, p, k, h));
        } else {
            Check.due("untie(" + n + ", " + p + ")", x.untie(n, p), m.untie(n, p));
        }
    }

    private void act(int kind) {
        int n = rope();
        int p = place(n);
        int f = force();
        int h = hand();
        if (kind < 6) {
            Check.due("pull(" + n + ", " + f + ")", x.pull(n, f), m.pull(n, f));
        } else if (kind < 9) {
            int v = r.nextInt(12) - 1;
            Check.due("wet(" + n + ", " + v + ")", x.wet(n, v), m.wet(n, v));
        } else if (kind < 12) {
            Check.due("cut(" + n + ", " + p + ")", x.cut(n, p), m.cut(n, p));
        } else if (kind < 15) {
            int b = rope();
            Check.due("splice(" + n + ", " + b + ")", x.splice(n, b), m.splice(n, b));
        } else if (kind < 17) {
            Check.due("sell(" + n + ", " + h + ")", x.sell(n, h), m.sell(n, h));
        } else if (kind < 21) {
            int d = r.nextInt(6) == 0 ? r.nextInt(70) - 4 : 1 + r.nextInt(4);
            Check.due("days(" + d + ")", x.days(d), m.days(d));
        } else if (kind < 26) {
            Check.due("drill(" + n + ", " + h + ")", x.drill(n, h), m.drill(n, h));
        } else {
            makeRope();
        }
    }

    private void tellWorld() {
        int what = r.nextInt(stormy ? 5 : 2) - 1 + (r.nextInt(8) == 0 ? 1 : 0);
        if (what == 3) {
            int v = r.nextInt();
            Check.due("state(" + v + ")", x.state(v), m.state(v));
            return;
        }
        int who = knot();
        int v = what == 2 ? r.nextInt(1100) - 50 : r.nextInt(12) - 1;
        Check.due("set(" + what + ", " + who + ", " + v + ")", x.set(what, who, v), m.set(what, who, v));
    }

    private void goBack() {
        int kind = r.nextInt(12);
        if (kind < 9) {
            Check.due("undo()", x.undo(), m.undo());
        } else {
            boolean taken = kind < 11;
            Check.due("image(" + taken + ")", x.image(taken), m.image(taken));
        }
    }

    private void tellThoughts() {
        int f = r.nextInt(6) == 0 ? -1 : force();
        int k = r.nextInt(3) == 0 ? -1 : r.nextInt(3) > 0 ? 1 : knot();
        Check.due("told(" + f + ", " + k + ")", x.told(f, k), m.told(f, k));
        int length = r.nextInt(5) == 0 ? -1 : r.nextInt(20) == 0 ? r.nextInt(40) - 8 : 1 + r.nextInt(r.nextBoolean() ? 24 : 8);
        Check.due("order(" + length + ")", x.order(length), m.order(length));
    }

    private void ask() {
        int n = rope();
        int p = place(n);
        int k = knot();
        int w = what(6);
        Check.due("of(" + n + ", " + w + ")", x.of(n, w), m.of(n, w));
        Check.due("at(" + n + ", " + p + ", " + w + ")", x.at(n, p, w), m.at(n, p, w));
        Check.due("habit(" + n + ", " + p + ", " + k + ", " + w + ")", x.habit(n, p, k, w), m.habit(n, p, k, w));
        int i = r.nextInt(m.look(3) + 3) - 1;
        Check.due("book(" + i + ", " + w + ")", x.book(i, w), m.book(i, w));
        int l = r.nextInt(45) - 2;
        Check.due("look(" + l + ")", x.look(l), m.look(l));
        Check.due("whose(" + n + ", " + p + ", " + w + ")", x.whose(n, p, w), m.whose(n, p, w));
    }

    private void think() {
        int n = rope();
        int p = place(n);
        int k = knot();
        int f = force();
        int w = what(4);
        int a = r.nextInt(6) - 1;
        int b = r.nextInt(6) - 1;
        switch (r.nextInt(10)) {
            case 8, 9 -> Check.due("would(" + n + ", " + f + ", " + w + ")", x.would(n, f, w), m.would(n, f, w));
            case 0 -> Check.due("least(" + n + ", " + w + ")", x.least(n, w), m.least(n, w));
            case 1 -> Check.due("train(" + n + ", " + p + ", " + k + ", " + f + ")", x.train(n, p, k, f), m.train(n, p, k, f));
            case 2 -> Check.due("fits(" + n + ", " + p + ", " + w + ")", x.fits(n, p, w), m.fits(n, p, w));
            case 3 -> Check.due("weak(" + n + ", " + w + ")", x.weak(n, w), m.weak(n, w));
            case 4 -> Check.due("ladder(" + p + ")", x.ladder(p), m.ladder(p));
            case 5 -> compareYard();
            case 6 -> Check.due("moves(" + a + ", " + b + ")", x.moves(a, b), m.moves(a, b));
            default -> {
                Check.due("shape(" + a + ", " + w + ")", x.shape(a, w), m.shape(a, w));
                Check.due("shape(" + a + ", " + (10 + p) + ")", x.shape(a, 10 + p), m.shape(a, 10 + p));
                Check.due("unlike(" + a + ", " + b + ")", x.unlike(a, b), m.unlike(a, b));
            }
        }
    }

    private void compareYard() {
        if (m.lore.orders.size() > 5 && r.nextInt(6) > 0) {
            return; // the model tries every way
        }
        Check.due("yard(0)", x.yard(0), m.yard(0));
        int i = r.nextInt(9) + 9;
        Check.due("yard(" + i + ")", x.yard(i), m.yard(i));
    }

    private void compareAll() {
        for (int what = -1; what < 37; what++) {
            Check.due("look(" + what + ")", x.look(what), m.look(what));
        }
        for (int n = 0; n < 8; n++) {
            for (int what = 0; what < 6; what++) {
                Check.due("of(" + n + ", " + what + ")", x.of(n, what), m.of(n, what));
            }
            for (int p = 0; p < Math.max(0, m.of(n, 0)); p++) {
                for (int what = 0; what < 4; what++) {
                    Check.due("at(" + n + ", " + p + ", " + what + ")", x.at(n, p, what), m.at(n, p, what));
                }
                for (int k = 0; k < 6; k++) {
                    Check.due("habit(" + n + ", " + p + ", " + k + ", 0)", x.habit(n, p, k, 0), m.habit(n, p, k, 0));
                    Check.due("habit(" + n + ", " + p + ", " + k + ", 1)", x.habit(n, p, k, 1), m.habit(n, p, k, 1));
                }
            }
        }
        for (int i = 0; i < m.look(3); i++) {
            for (int what = 0; what < 6; what++) {
                Check.due("book(" + i + ", " + what + ")", x.book(i, what), m.book(i, what));
            }
        }
    }
}

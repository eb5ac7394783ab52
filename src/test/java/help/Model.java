import java.util.ArrayDeque;
import java.util.ArrayList;
import java.util.Arrays;
import java.util.Comparator;
import java.util.Deque;
import java.util.HashMap;
import java.util.HashSet;
import java.util.List;
import java.util.Map;
import java.util.Set;
import java.util.TreeMap;
import java.util.function.Predicate;
import java.util.function.ToIntFunction;

/**
 * A second telling of ../shared/DOC.md, as naive as can be and with the whole Java library: everything is copied,
 * every way is tried. The fuzz test holds RopeMind against it.
 */
final class Model {
    static final int NONE = -1;

    static final class Spot {
        int knot = NONE;
        final int[] habit = new int[6];
        final int[] since = new int[6];

        Spot copy() {
            Spot c = new Spot();
            c.knot = knot;
            System.arraycopy(habit, 0, c.habit, 0, 6);
            System.arraycopy(since, 0, c.since, 0, 6);
            return c;
        }

        int call() {
            List<Integer> known = new ArrayList<>();
            for (int k = 0; k < 6; k++) {
                if (habit[k] > 0) {
                    known.add(k);
                }
            }
            known.sort(Comparator.<Integer>comparingInt(k -> since[k]).thenComparingInt(k -> -habit[k])
                    .thenComparingInt(k -> k));
            return known.isEmpty() ? NONE : known.get(0);
        }

        void grow(int k, int by, int day) {
            if (habit[k] == 0) {
                since[k] = day;
            }
            habit[k] = Math.min(99, habit[k] + by);
        }
    }

    static final class Line {
        final List<Spot> spots = new ArrayList<>();
        int owner;
        int born;
        int wet;

        Line copy() {
            Line c = new Line();
            c.owner = owner;
            c.born = born;
            c.wet = wet;
            for (Spot s : spots) {
                c.spots.add(s.copy());
            }
            return c;
        }

        boolean tied(int p) {
            return p >= 0 && p < spots.size() && spots.get(p).knot != NONE;
        }

        boolean untied(int p) {
            return p >= 0 && p < spots.size() && spots.get(p).knot == NONE;
        }

        int ties() {
            return (int) spots.stream().filter(s -> s.knot != NONE).count();
        }
    }

    /** What an undo takes back. */
    static final class Scene {
        int state;
        int day;
        int storm;
        final int[] tight = {3, 3, 3, 3, 3, 3};
        final int[] cross = {2, 2, 2, 2, 2, 2};
        final TreeMap<Integer, Line> lines = new TreeMap<>();
        final List<int[]> book = new ArrayList<>();

        Scene copy() {
            Scene c = new Scene();
            c.state = state;
            c.day = day;
            c.storm = storm;
            System.arraycopy(tight, 0, c.tight, 0, 6);
            System.arraycopy(cross, 0, c.cross, 0, 6);
            lines.forEach((n, l) -> c.lines.put(n, l.copy()));
            c.book.addAll(book);
            return c;
        }

        int draw(int m) {
            state = state * 1664525 + 1013904223;
            return (int) (((state & 0xffffffffL) >> 8) % m);
        }

        int free() {
            for (int i = 0; i < 8; i++) {
                if (!lines.containsKey(i)) {
                    return i;
                }
            }
            return NONE;
        }

        void note(int rope, int place, int what, int how, int hand) {
            if (book.size() < 200) {
                book.add(new int[] {day, rope, place, what, how, hand});
            }
        }
    }

    record LawLine(ToIntFunction<Map<String, Integer>> value, Predicate<Map<String, Integer>> when) { }

    record Step(String kind, int a, int b) { }

    /** What an undo leaves. */
    static final class Lore {
        final List<List<LawLine>> laws = new ArrayList<>(List.of(List.of(), List.of(), List.of()));
        List<Step> drill = List.of();
        final String[] shapes = {"", "", "", ""};
        final List<int[]> told = new ArrayList<>();
        final List<Integer> orders = new ArrayList<>();

        Lore copy() {
            Lore c = new Lore();
            for (int i = 0; i < 3; i++) {
                c.laws.set(i, laws.get(i));
            }
            c.drill = drill;
            System.arraycopy(shapes, 0, c.shapes, 0, 4);
            c.told.addAll(told);
            c.orders.addAll(orders);
            return c;
        }
    }

    static final class Fault extends RuntimeException {
        private static final long serialVersionUID = 1L;
        final int kind;
        final int place;

        Fault(int kind, int place) {
            this.kind = kind;
            this.place = place;
        }
    }

    Scene s = new Scene();
    Lore lore = new Lore();
    final Deque<Scene> past = new ArrayDeque<>();
    Scene imageScene;
    Lore imageLore;
    StringBuilder tape = new StringBuilder();
    int fault;
    int faultPlace = NONE;

    // ---- texts

    static final String[] LAW_WORD = {"tie", "forget", "hold"};
    static final List<List<String>> ASKS = List.of(
            List.of("habit", "age", "place", "knot", "tight", "wet", "beside", "ties"),
            List.of("habit", "age", "place", "knot", "tight", "wet"),
            List.of("tied", "tight", "cross", "years", "place", "length", "wet", "habits"));

    record Token(String word, int place) { }

    static List<Token> tokens(String text) {
        List<Token> found = new ArrayList<>();
        java.util.regex.Matcher m = java.util.regex.Pattern.compile("[A-Za-z]+|[0-9]+|[ \n]+|.",
                java.util.regex.Pattern.DOTALL).matcher(text);
        while (m.find()) {
            if (!m.group().matches("[ \n]+")) {
                found.add(new Token(m.group(), m.start()));
            }
        }
        found.add(new Token("", text.length()));
        return found;
    }

    static final class Reader {
        final List<Token> tokens;
        final Set<String> names;
        int i;

        Reader(String text, List<String> names) {
            this.tokens = tokens(text);
            this.names = new HashSet<>(names);
        }

        String peek() {
            return tokens.get(i).word();
        }

        int here() {
            return tokens.get(i).place();
        }

        Fault bad() {
            return new Fault(1, here());
        }

        boolean take(String word) {
            if (peek().equals(word)) {
                i++;
                return true;
            }
            return false;
        }

        void want(String word) {
            if (!take(word)) {
                throw bad();
            }
        }

        int number(int low, int high) {
            if (!peek().matches("[0-9]{1,4}")) {
                throw bad();
            }
            int v = Integer.parseInt(peek());
            if (v < low || v > high) {
                throw new Fault(2, here());
            }
            i++;
            return v;
        }

        ToIntFunction<Map<String, Integer>> unit() {
            String w = peek();
            if (names.contains(w)) {
                i++;
                return env -> env.get(w);
            }
            int v = number(0, 9999);
            return env -> v;
        }

        ToIntFunction<Map<String, Integer>> term() {
            ToIntFunction<Map<String, Integer>> left = unit();
            while (true) {
                ToIntFunction<Map<String, Integer>> l = left;
                if (take("*")) {
                    ToIntFunction<Map<String, Integer>> r = unit();
                    left = env -> l.applyAsInt(env) * r.applyAsInt(env);
                } else if (take("/")) {
                    int d = number(1, 9999);
                    left = env -> l.applyAsInt(env) / d;
                } else {
                    return left;
                }
            }
        }

        ToIntFunction<Map<String, Integer>> sum() {
            ToIntFunction<Map<String, Integer>> left = term();
            while (true) {
                ToIntFunction<Map<String, Integer>> l = left;
                if (take("+")) {
                    ToIntFunction<Map<String, Integer>> r = term();
                    left = env -> l.applyAsInt(env) + r.applyAsInt(env);
                } else if (take("-")) {
                    ToIntFunction<Map<String, Integer>> r = term();
                    left = env -> l.applyAsInt(env) - r.applyAsInt(env);
                } else {
                    return left;
                }
            }
        }

        Predicate<Map<String, Integer>> any(int open) {
            Predicate<Map<String, Integer>> left = all(open);
            while (take("or")) {
                left = left.or(all(open));
            }
            return left;
        }

        Predicate<Map<String, Integer>> all(int open) {
            Predicate<Map<String, Integer>> left = one(open);
            while (take("and")) {
                left = left.and(one(open));
            }
            return left;
        }

        Predicate<Map<String, Integer>> one(int open) {
            if ((peek().equals("not") || peek().equals("(")) && open == 8) {
                throw new Fault(3, here());
            }
            if (take("not")) {
                return one(open + 1).negate();
            }
            if (take("(")) {
                Predicate<Map<String, Integer>> inside = any(open + 1);
                want(")");
                return inside;
            }
            ToIntFunction<Map<String, Integer>> a = sum();
            String sign = peek();
            if (!sign.matches("[<=>]")) {
                throw bad();
            }
            i++;
            ToIntFunction<Map<String, Integer>> b = sum();
            return env -> {
                int d = Integer.compare(a.applyAsInt(env), b.applyAsInt(env));
                return sign.equals("<") ? d < 0 : sign.equals("=") ? d == 0 : d > 0;
            };
        }

        List<LawLine> law(String word) {
            List<LawLine> lines = new ArrayList<>();
            while (!peek().isEmpty()) {
                if (peek().equals(word) && lines.size() == 16) {
                    throw new Fault(3, here());
                }
                want(word);
                ToIntFunction<Map<String, Integer>> value = sum();
                Predicate<Map<String, Integer>> when = take("when") ? any(0) : env -> true;
                want(";");
                lines.add(new LawLine(value, when));
            }
            return lines;
        }

        List<Step> steps(int open) {
            List<Step> found = new ArrayList<>();
            while (true) {
                int at = here();
                if (take("tie")) {
                    int k = number(0, 5);
                    want("at");
                    found.add(new Step("tie", k, number(0, 23)));
                } else if (take("untie")) {
                    found.add(new Step("untie", number(0, 23), 0));
                } else if (take("pull")) {
                    found.add(new Step("pull", number(0, 99), 0));
                } else if (take("wet")) {
                    found.add(new Step("wet", number(0, 9), 0));
                } else if (take("rest")) {
                    found.add(new Step("rest", number(1, 30), 0));
                } else if (take("again")) {
                    if (open == 4) {
                        throw new Fault(3, at);
                    }
                    int n = number(1, 9);
                    want("(");
                    List<Step> inside = steps(open + 1);
                    want(")");
                    for (int k = 0; k < n; k++) {
                        found.addAll(inside);
                    }
                    continue;
                } else {
                    return found;
                }
                want(";");
            }
        }
    }

    int text(int k) {
        String t = tape.toString();
        tape.setLength(0);
        fault = 0;
        faultPlace = NONE;
        try {
            if (k >= 0 && k <= 2) {
                List<LawLine> lines = new Reader(t, ASKS.get(k)).law(LAW_WORD[k]);
                lore.laws.set(k, lines);
                return lines.size();
            }
            if (k == 3) {
                Reader r = new Reader(t, List.of());
                List<Step> steps = r.steps(0);
                r.want("");
                if (steps.size() > 150) {
                    throw new Fault(4, t.length());
                }
                lore.drill = steps;
                return steps.size();
            }
            if (k >= 4 && k <= 7) {
                StringBuilder b = new StringBuilder();
                for (int i = 0; i < t.length(); i++) {
                    char c = t.charAt(i);
                    if (c != ' ' && c != '\n') {
                        if (c != 'o' && c != 'u' && c != 't') {
                            throw new Fault(1, i);
                        }
                        if (b.length() == 7) {
                            throw new Fault(3, i);
                        }
                        b.append(c);
                    }
                }
                lore.shapes[k - 4] = b.toString();
                return b.length();
            }
        } catch (Fault f) {
            fault = f.kind;
            faultPlace = f.place;
        }
        return NONE;
    }

    int feed(int a, int b, int c, int d, int e) {
        if (tape.length() + 20 > 400) {
            return NONE;
        }
        for (int v : new int[] {a, b, c, d, e}) {
            for (byte x : java.nio.ByteBuffer.allocate(4).putInt(v).array()) {
                tape.append((char) (x & 255));
            }
        }
        return tape.length();
    }

    boolean end(int n) {
        if (n < 0 || n > tape.length()) {
            return false;
        }
        tape.setLength(n);
        return true;
    }

    int fault(int what) {
        return what == 0 ? fault : what == 1 ? faultPlace : NONE;
    }

    // ---- laws

    int lawValue(int k, Map<String, Integer> env, int otherwise, int most) {
        for (LawLine line : lore.laws.get(k)) {
            if (line.when().test(env)) {
                return Math.max(0, Math.min(most, line.value().applyAsInt(env)));
            }
        }
        return Math.max(0, Math.min(most, otherwise));
    }

    Map<String, Integer> habitEnv(Line l, int p, int k) {
        Map<String, Integer> env = new HashMap<>();
        Spot spot = l.spots.get(p);
        env.put("habit", spot.habit[k]);
        env.put("age", s.day - spot.since[k]);
        env.put("place", p);
        env.put("knot", k);
        env.put("tight", s.tight[k]);
        env.put("wet", l.wet);
        env.put("beside", (l.tied(p - 1) ? 1 : 0) + (l.tied(p + 1) ? 1 : 0));
        env.put("ties", l.ties());
        return env;
    }

    int need(Line l, int p, int k) {
        return lawValue(0, habitEnv(l, p, k), 100 - l.spots.get(p).habit[k], 999);
    }

    int loss(Line l, int p, int k) {
        return lawValue(1, habitEnv(l, p, k), 1, 99);
    }

    int strength(Line l, int p) {
        Map<String, Integer> env = new HashMap<>();
        Spot spot = l.spots.get(p);
        env.put("tied", spot.knot == NONE ? 0 : 1);
        env.put("tight", spot.knot == NONE ? 0 : s.tight[spot.knot]);
        env.put("cross", spot.knot == NONE ? 0 : s.cross[spot.knot]);
        env.put("years", (s.day - l.born) / 365);
        env.put("place", p);
        env.put("length", l.spots.size());
        env.put("wet", l.wet);
        env.put("habits", Arrays.stream(spot.habit).sum());
        return lawValue(2, env, 90, 999);
    }

    // ---- acts

    Line line(int rope) {
        return s.lines.get(rope);
    }

    static boolean in(int v, int low, int high) {
        return v >= low && v <= high;
    }

    void keep() {
        past.addLast(s.copy());
        if (past.size() > 5) {
            past.removeFirst();
        }
    }

    int state(int v) {
        int was = s.state;
        s.state = v;
        past.clear();
        return was;
    }

    int rope(int length, int owner) {
        int n = s.free();
        if (!in(length, 2, 24) || !in(owner, 0, 9) || n == NONE) {
            return NONE;
        }
        Line l = new Line();
        for (int i = 0; i < length; i++) {
            l.spots.add(new Spot());
        }
        l.owner = owner;
        l.born = s.day;
        s.lines.put(n, l);
        past.clear();
        return n;
    }

    boolean set(int what, int who, int v) {
        if (what == 0 && in(who, 0, 5) && in(v, 1, 9)) {
            s.tight[who] = v;
        } else if (what == 1 && in(who, 0, 5) && in(v, 0, 9)) {
            s.cross[who] = v;
        } else if (what == 2 && in(v, 0, 1000)) {
            s.storm = v;
        } else {
            return false;
        }
        past.clear();
        return true;
    }

    boolean doTie(int rope, int place, int knot, int hand) {
        Line l = line(rope);
        if (l == null || !l.untied(place)) {
            return false;
        }
        l.spots.get(place).knot = knot;
        l.spots.get(place).grow(knot, s.tight[knot], s.day);
        s.note(rope, place, knot, 0, hand);
        return true;
    }

    int doUntie(int rope, int place) {
        Line l = line(rope);
        if (l == null || !l.tied(place)) {
            return NONE;
        }
        int k = l.spots.get(place).knot;
        l.spots.get(place).knot = NONE;
        return k;
    }

    void doWet(int rope, int v) {
        Line l = line(rope);
        if (l.wet == 0 && v > 0) {
            for (Spot spot : l.spots) {
                if (spot.call() != NONE) {
                    spot.grow(spot.call(), 5, s.day);
                }
            }
        }
        l.wet = v;
    }

    record Pulled(List<int[]> ties, int breaks) { }

    /** Ties what ties itself on the line and tells where it would break. */
    Pulled stir(Line l, int force) {
        List<int[]> queue = new ArrayList<>();
        for (int p = 0; p < l.spots.size(); p++) {
            Spot spot = l.spots.get(p);
            if (spot.knot == NONE && spot.call() != NONE) {
                queue.add(new int[] {p, spot.call(), spot.since[spot.call()]});
            }
        }
        queue.sort(Comparator.<int[]>comparingInt(q -> q[2]).thenComparingInt(q -> q[0]));
        List<int[]> ties = new ArrayList<>();
        for (int[] q : queue) {
            if (need(l, q[0], q[1]) <= force) {
                l.spots.get(q[0]).knot = q[1];
                l.spots.get(q[0]).grow(q[1], 1, s.day);
                ties.add(q);
            }
        }
        int worst = weakest(l);
        return new Pulled(ties, strength(l, worst) < force ? worst : NONE);
    }

    int weakest(Line l) {
        int best = 0;
        for (int p = 1; p < l.spots.size(); p++) {
            if (strength(l, p) < strength(l, best)) {
                best = p;
            }
        }
        return best;
    }

    Pulled doPull(int rope, int force) {
        Pulled done = stir(line(rope), force);
        for (int[] q : done.ties()) {
            s.note(rope, q[0], q[1], 1, NONE);
        }
        if (done.breaks() != NONE) {
            s.note(rope, done.breaks(), part(rope, done.breaks()), 2, NONE);
        }
        return done;
    }

    int part(int rope, int p) {
        Line l = line(rope);
        Line tail = new Line();
        tail.owner = l.owner;
        tail.born = l.born;
        tail.wet = l.wet;
        while (l.spots.size() > p) {
            tail.spots.add(l.spots.remove(p));
        }
        Arrays.fill(tail.spots.get(0).habit, 0);
        if (p > 0) {
            int[] h = l.spots.get(p - 1).habit;
            for (int k = 0; k < 6; k++) {
                h[k] = h[k] / 2;
            }
        }
        int n = NONE;
        if (tail.spots.size() >= 2) {
            n = s.free();
            if (n != NONE) {
                s.lines.put(n, tail);
            }
        }
        if (l.spots.size() < 2) {
            s.lines.remove(rope);
        }
        return n;
    }

    int doDay() {
        for (Line l : s.lines.values()) {
            for (int p = 0; p < l.spots.size(); p++) {
                Spot spot = l.spots.get(p);
                for (int k = 0; k < 6; k++) {
                    if (spot.knot == NONE && spot.habit[k] > 0) {
                        spot.habit[k] = Math.max(0, spot.habit[k] - loss(l, p, k));
                    }
                }
            }
            l.wet = Math.max(0, l.wet - 1);
        }
        int breaks = 0;
        if (s.storm > 0 && s.draw(1000) < s.storm) {
            for (int n : new ArrayList<>(s.lines.keySet())) {
                if (doPull(n, s.draw(100)).breaks() != NONE) {
                    breaks++;
                }
            }
        }
        s.day++;
        return breaks;
    }

    boolean tie(int rope, int place, int knot, int hand) {
        if (line(rope) == null || !line(rope).untied(place) || !in(knot, 0, 5) || !in(hand, 0, 9)) {
            return false;
        }
        keep();
        return doTie(rope, place, knot, hand);
    }

    int untie(int rope, int place) {
        if (line(rope) == null || !line(rope).tied(place)) {
            return NONE;
        }
        keep();
        return doUntie(rope, place);
    }

    int pull(int rope, int force) {
        if (line(rope) == null || !in(force, 0, 99)) {
            return NONE;
        }
        keep();
        return doPull(rope, force).ties().size();
    }

    boolean wet(int rope, int v) {
        if (line(rope) == null || !in(v, 0, 9)) {
            return false;
        }
        keep();
        doWet(rope, v);
        return true;
    }

    int cut(int rope, int place) {
        if (line(rope) == null || !in(place, 2, line(rope).spots.size() - 2)) {
            return NONE;
        }
        keep();
        int n = part(rope, place);
        s.note(rope, place, n, 3, NONE);
        return n == NONE ? -2 : n;
    }

    int splice(int a, int b) {
        Line first = line(a);
        Line second = line(b);
        if (first == null || second == null || a == b || first.spots.size() + second.spots.size() > 24) {
            return NONE;
        }
        keep();
        s.note(a, first.spots.size(), b, 4, NONE);
        Spot x = first.spots.get(first.spots.size() - 1);
        Spot y = second.spots.get(0);
        for (int k = 0; k < 6; k++) {
            int since = 0;
            if (x.habit[k] > 0 && y.habit[k] > 0) {
                since = Math.min(x.since[k], y.since[k]);
            } else if (x.habit[k] > 0) {
                since = x.since[k];
            } else {
                since = y.since[k];
            }
            int habit = Math.max(x.habit[k], y.habit[k]);
            x.habit[k] = habit;
            y.habit[k] = habit;
            x.since[k] = since;
            y.since[k] = since;
        }
        first.spots.addAll(second.spots);
        first.wet = Math.max(first.wet, second.wet);
        s.lines.remove(b);
        return first.spots.size();
    }

    boolean sell(int rope, int owner) {
        if (line(rope) == null || !in(owner, 0, 9) || line(rope).owner == owner) {
            return false;
        }
        keep();
        line(rope).owner = owner;
        s.note(rope, NONE, owner, 5, NONE);
        return true;
    }

    int days(int n) {
        if (!in(n, 1, 60) || s.day + n > 9999) {
            return NONE;
        }
        int breaks = 0;
        for (int i = 0; i < n; i++) {
            keep();
            breaks += doDay();
        }
        return breaks;
    }

    int drill(int rope, int hand) {
        int rests = lore.drill.stream().filter(x -> x.kind().equals("rest")).mapToInt(Step::a).sum();
        if (line(rope) == null || !in(hand, 0, 9) || s.day + rests > 9999) {
            return NONE;
        }
        keep();
        int done = 0;
        for (Step step : lore.drill) {
            if (line(rope) == null) {
                continue;
            }
            boolean did = true;
            switch (step.kind()) {
                case "tie" -> did = doTie(rope, step.b(), step.a(), hand);
                case "untie" -> did = doUntie(rope, step.a()) != NONE;
                case "pull" -> doPull(rope, step.a());
                case "wet" -> doWet(rope, step.a());
                default -> {
                    for (int i = 0; i < step.a(); i++) {
                        doDay();
                    }
                }
            }
            done += did ? 1 : 0;
        }
        return done;
    }

    // ---- what is

    int of(int rope, int what) {
        Line l = line(rope);
        if (l == null) {
            return NONE;
        }
        return switch (what) {
            case 0 -> l.spots.size();
            case 1 -> l.owner;
            case 2 -> l.born;
            case 3 -> l.wet;
            case 4 -> l.ties();
            case 5 -> l.spots.stream().mapToInt(x -> Arrays.stream(x.habit).sum()).sum();
            default -> NONE;
        };
    }

    int at(int rope, int place, int what) {
        Line l = line(rope);
        if (l == null || !in(place, 0, l.spots.size() - 1) || !in(what, 0, 3)) {
            return -2;
        }
        Spot spot = l.spots.get(place);
        int call = spot.knot == NONE ? spot.call() : NONE;
        return switch (what) {
            case 0 -> spot.knot;
            case 1 -> call;
            case 2 -> call == NONE ? NONE : need(l, place, call);
            default -> strength(l, place);
        };
    }

    int habit(int rope, int place, int knot, int what) {
        Line l = line(rope);
        if (l == null || !in(place, 0, l.spots.size() - 1) || !in(knot, 0, 5) || !in(what, 0, 2)) {
            return -2;
        }
        Spot spot = l.spots.get(place);
        boolean some = spot.habit[knot] > 0;
        return switch (what) {
            case 0 -> spot.habit[knot];
            case 1 -> some ? spot.since[knot] : NONE;
            default -> some ? loss(l, place, knot) : 0;
        };
    }

    int book(int i, int what) {
        return in(i, 0, s.book.size() - 1) && in(what, 0, 5) ? s.book.get(i)[what] : -2;
    }

    // ---- in thought

    int would(int rope, int force, int what) {
        if (line(rope) == null || !in(force, 0, 99) || !in(what, 0, 3)) {
            return -2;
        }
        Pulled p = stir(line(rope).copy(), force);
        return switch (what) {
            case 0 -> p.ties().size();
            case 1 -> p.ties().isEmpty() ? NONE : p.ties().get(0)[0];
            case 2 -> p.ties().isEmpty() ? NONE : p.ties().get(0)[1];
            default -> p.breaks();
        };
    }

    int least(int rope, int what) {
        if (line(rope) == null || !in(what, 0, 1)) {
            return NONE;
        }
        for (int f = 0; f < 100; f++) {
            Pulled p = stir(line(rope).copy(), f);
            if (what == 0 ? !p.ties().isEmpty() : p.breaks() != NONE) {
                return f;
            }
        }
        return NONE;
    }

    int train(int rope, int place, int knot, int force) {
        if (line(rope) == null || !line(rope).untied(place) || !in(knot, 0, 5) || !in(force, 0, 99)) {
            return NONE;
        }
        for (int n = 0; n <= 30; n++) {
            Line l = line(rope).copy();
            for (int i = 0; i < n; i++) {
                l.spots.get(place).grow(knot, s.tight[knot], s.day);
            }
            Pulled p = stir(l, force);
            if (!p.ties().isEmpty() && p.ties().get(0)[0] == place && p.ties().get(0)[1] == knot) {
                return n;
            }
        }
        return NONE;
    }

    int told(int force, int knot) {
        if (force == NONE) {
            lore.told.clear();
            return 0;
        }
        if (!in(force, 0, 99) || !in(knot, -1, 5) || lore.told.size() == 6) {
            return NONE;
        }
        lore.told.add(new int[] {force, knot});
        return lore.told.size();
    }

    int fits(int rope, int place, int what) {
        if (line(rope) == null || !line(rope).untied(place) || !in(what, 0, 3)) {
            return NONE;
        }
        List<int[]> found = new ArrayList<>();
        for (int k = 0; k < 6; k++) {
            for (int v = 1; v <= 99; v++) {
                Line l = line(rope).copy();
                Spot spot = new Spot();
                spot.habit[k] = v;
                spot.since[k] = s.day;
                l.spots.set(place, spot);
                int need = need(l, place, k);
                int knot = k;
                if (lore.told.stream().allMatch(t -> need <= t[0] ? t[1] == knot : t[1] == NONE)) {
                    found.add(new int[] {k, v, need});
                }
            }
        }
        if (what == 0) {
            return found.size();
        }
        if (what < 3) {
            return found.isEmpty() ? NONE : found.get(0)[what - 1];
        }
        if (found.size() < 2) {
            return NONE;
        }
        int best = NONE;
        long bestPart = Long.MAX_VALUE;
        for (int f = 0; f < 100; f++) {
            int force = f;
            long tying = found.stream().filter(x -> x[2] <= force).count();
            long part = Math.max(tying, found.size() - tying);
            if (part < bestPart) {
                bestPart = part;
                best = f;
            }
        }
        return best;
    }

    int weak(int rope, int what) {
        if (line(rope) == null || !in(what, 0, 1)) {
            return NONE;
        }
        int p = weakest(line(rope));
        return what == 1 ? p : strength(line(rope), p);
    }

    int ladder(int length) {
        int best = NONE;
        for (Map.Entry<Integer, Line> e : s.lines.entrySet()) {
            if (e.getValue().spots.size() >= length && (best == NONE
                    || weak(e.getKey(), 0) > weak(best, 0))) {
                best = e.getKey();
            }
        }
        return best;
    }

    int order(int length) {
        if (length == NONE) {
            lore.orders.clear();
            return 0;
        }
        if (!in(length, 1, 24) || lore.orders.size() == 7) {
            return NONE;
        }
        lore.orders.add(length);
        return lore.orders.size();
    }

    private int[] bestWay;
    private int bestRopes;

    private void ways(int i, int[] way, int[] left) {
        if (i == way.length) {
            int used = (int) Arrays.stream(way).distinct().count();
            if (used < bestRopes) {
                bestRopes = used;
                bestWay = way.clone();
            }
            return;
        }
        for (int r = 0; r < 8; r++) {
            if (left[r] >= lore.orders.get(i)) {
                left[r] -= lore.orders.get(i);
                way[i] = r;
                ways(i + 1, way, left);
                left[r] += lore.orders.get(i);
            }
        }
    }

    int yard(int what) {
        if (what != 0 && !in(what, 10, 9 + lore.orders.size())) {
            return NONE;
        }
        bestWay = null;
        bestRopes = 99;
        int[] left = new int[8];
        s.lines.forEach((n, l) -> left[n] = l.spots.size());
        ways(0, new int[lore.orders.size()], left);
        if (bestWay == null) {
            return NONE;
        }
        return what == 0 ? bestRopes : bestWay[what - 10];
    }

    int moves(int a, int b) {
        if (!in(a, 0, 3) || !in(b, 0, 3)) {
            return NONE;
        }
        Set<String> seen = new HashSet<>(Set.of(lore.shapes[a]));
        Set<String> edge = Set.of(lore.shapes[a]);
        for (int n = 0; n <= 12; n++) {
            if (edge.contains(lore.shapes[b])) {
                return n;
            }
            Set<String> next = new HashSet<>();
            for (String x : edge) {
                for (int i = 0; i <= x.length(); i++) {
                    for (String pair : List.of("ou", "uo", "tt")) {
                        if (x.length() <= 5) {
                            next.add(x.substring(0, i) + pair + x.substring(i));
                        }
                        if (x.startsWith(pair, i)) {
                            next.add(x.substring(0, i) + x.substring(i + 2));
                        }
                    }
                    if (i + 1 < x.length() && (x.charAt(i) == 't' || x.charAt(i + 1) == 't')) {
                        next.add(x.substring(0, i) + x.charAt(i + 1) + x.charAt(i) + x.substring(i + 2));
                    }
                }
            }
            next.removeAll(seen);
            seen.addAll(next);
            edge = next;
        }
        return NONE;
    }

    int mark(String x, int what) {
        int o = 0;
        int u = 0;
        int t = 0;
        for (char c : x.toCharArray()) {
            o += c == 'o' ? 1 : 0;
            u += c == 'u' ? 1 : 0;
            t += c == 't' ? 1 : 0;
        }
        return what == 1 ? o - u : t % 2;
    }

    int shape(int k, int what) {
        if (!in(k, 0, 3)) {
            return -100;
        }
        String x = lore.shapes[k];
        if (what == 0) {
            return x.length();
        }
        if (what == 1 || what == 2) {
            return mark(x, what);
        }
        return in(what, 10, 9 + x.length()) ? "out".indexOf(x.charAt(what - 10)) : -100;
    }

    int unlike(int a, int b) {
        if (!in(a, 0, 3) || !in(b, 0, 3)) {
            return NONE;
        }
        return mark(lore.shapes[a], 1) != mark(lore.shapes[b], 1)
                || mark(lore.shapes[a], 2) != mark(lore.shapes[b], 2) ? 1 : 0;
    }

    int whose(int rope, int place, int what) {
        if (!in(rope, 0, 7) || !in(what, 0, 1) || what == 0 && !in(place, 0, 23)) {
            return -2;
        }
        int hand = NONE;
        int sales = 0;
        for (int[] b : s.book) {
            if (b[1] == rope && b[4] == 0 && b[2] == place) {
                hand = b[5];
            }
            sales += b[1] == rope && b[4] == 5 ? 1 : 0;
        }
        return what == 0 ? hand : sales;
    }

    boolean undo() {
        if (past.isEmpty()) {
            return false;
        }
        s = past.removeLast();
        return true;
    }

    boolean image(boolean taken) {
        if (taken) {
            imageScene = s.copy();
            imageLore = lore.copy();
            return true;
        }
        if (imageScene == null) {
            return false;
        }
        s = imageScene.copy();
        lore = imageLore.copy();
        past.clear();
        return true;
    }

    int look(int what) {
        if (in(what, 20, 25)) {
            return s.tight[what - 20];
        }
        if (in(what, 30, 35)) {
            return s.cross[what - 30];
        }
        return switch (what) {
            case 0 -> s.lines.keySet().stream().mapToInt(n -> 1 << n).sum();
            case 1 -> s.day;
            case 2 -> s.storm;
            case 3 -> s.book.size();
            case 4 -> s.state;
            case 5, 6, 7 -> lore.laws.get(what - 5).size();
            case 8 -> lore.drill.size();
            case 9 -> past.size();
            case 10 -> lore.told.size();
            case 11 -> lore.orders.size();
            default -> NONE;
        };
    }
}

import java.util.Arrays;

/** Rope that keeps its knots in mind. ../shared/DOC.md tells, promise by promise, what each call does. */
public final class RopeMind {
    public static final int NONE = -1;

    private static final int ROPES = 8;
    private static final int PLACES = 24;
    private static final int SHORTEST = 2;
    private static final int KNOTS = 6;
    private static final int HANDS = 10;
    private static final int OWNERS = 10;
    private static final int WETTEST = 9;
    private static final int FORCES = 100;
    private static final int MOST_HABIT = 99;
    private static final int MOST_NEED = 999;
    private static final int MOST_STRENGTH = 999;
    private static final int MOST_LOSS = 99;
    private static final int MOST_STORM = 1000;
    private static final int LAST_DAY = 9999;
    private static final int MOST_DAYS = 60;
    private static final int MOST_TRAINING = 30;
    private static final int WETTING = 5;
    private static final int KEPT = 5;
    private static final int LOST = -2;

    private static final int LAWS = 3;
    private static final int DRILL_TEXT = 3;
    private static final int SHAPE_TEXT = 4;
    private static final int SHAPES = 4;
    private static final int LETTERS = 7;
    private static final int MOST_TOLD = 6;
    private static final int MOST_ORDERS = 7;
    private static final int TAPE = 400;

    private static final int BY_HAND = 0;
    private static final int BY_ITSELF = 1;
    private static final int BROKEN = 2;
    private static final int CUT = 3;
    private static final int SPLICED = 4;
    private static final int SOLD = 5;

    private static final int CANNOT_STAND = 1;
    private static final int WRONG_NUMBER = 2;
    private static final int TOO_MANY = 3;
    private static final int TOO_LONG = 4;

    private final World now;
    private final Book pages;
    private final Lore lore;
    private final Tokens tokens;
    private final Law lawDraft;
    private final Drill drillDraft;
    private final Judge judge;
    private final Pull pulling;
    private final Rope thought;
    private final YardPlan yardPlan;
    private final MoveSearch search;
    private final World[] past;
    private int pastCount;
    private boolean imageTaken;
    private final World imageWorld;
    private final Book imageBook;
    private final Lore imageLore;

    public RopeMind() {
        now = new World();
        pages = new Book();
        lore = new Lore();
        tokens = new Tokens();
        lawDraft = new Law();
        drillDraft = new Drill();
        judge = new Judge(lore);
        pulling = new Pull(judge);
        thought = new Rope();
        yardPlan = new YardPlan();
        search = new MoveSearch();
        past = new World[KEPT];
        for (int i = 0; i < KEPT; i++) {
            past[i] = new World();
        }
        imageWorld = new World();
        imageBook = new Book();
        imageLore = new Lore();
    }

    // What is told of the world itself.

    public int state(int v) {
        int before = now.draws;
        now.draws = v;
        pastCount = 0;
        return before;
    }

    public int rope(int length, int owner) {
        int number = now.freeNumber();
        if (length < SHORTEST || length > PLACES || !isIn(owner, OWNERS) || number == NONE) {
            return NONE;
        }
        now.ropes[number].begin(length, owner, now.day);
        pastCount = 0;
        return number;
    }

    public boolean set(int what, int who, int v) {
        if (what == 2 && v >= 0 && v <= MOST_STORM) {
            now.storm = v;
        } else if (what == 0 && isIn(who, KNOTS) && v >= 1 && v <= 9) {
            now.tight[who] = v;
        } else if (what == 1 && isIn(who, KNOTS) && v >= 0 && v <= 9) {
            now.cross[who] = v;
        } else {
            return false;
        }
        pastCount = 0;
        return true;
    }

    // Acts.

    public boolean tie(int rope, int place, int knot, int hand) {
        Rope r = now.ropeAt(rope);
        if (r == null || !r.isUntied(place) || !isIn(knot, KNOTS) || !isIn(hand, HANDS)) {
            return false;
        }
        keepPast();
        tieByHand(rope, place, knot, hand);
        return true;
    }

    public int untie(int rope, int place) {
        Rope r = now.ropeAt(rope);
        if (r == null || !r.isTied(place)) {
            return NONE;
        }
        keepPast();
        int knot = r.tied[place];
        r.tied[place] = NONE;
        return knot;
    }

    public int pull(int rope, int force) {
        Rope r = now.ropeAt(rope);
        if (r == null || !isIn(force, FORCES)) {
            return NONE;
        }
        keepPast();
        pullNow(rope, force);
        return pulling.ties;
    }

    public boolean wet(int rope, int v) {
        Rope r = now.ropeAt(rope);
        if (r == null || v < 0 || v > WETTEST) {
            return false;
        }
        keepPast();
        r.wetTo(v, now.day);
        return true;
    }

    public int cut(int rope, int place) {
        Rope r = now.ropeAt(rope);
        if (r == null || place < SHORTEST || place > r.length - SHORTEST) {
            return NONE;
        }
        keepPast();
        int fresh = now.part(rope, place);
        pages.write(now, rope, place, fresh, CUT, NONE);
        return fresh == NONE ? LOST : fresh;
    }

    public int splice(int a, int b) {
        Rope first = now.ropeAt(a);
        Rope second = now.ropeAt(b);
        if (first == null || second == null || a == b || first.length + second.length > PLACES) {
            return NONE;
        }
        keepPast();
        pages.write(now, a, first.length, b, SPLICED, NONE);
        first.append(second);
        second.there = false;
        return first.length;
    }

    public boolean sell(int rope, int owner) {
        Rope r = now.ropeAt(rope);
        if (r == null || !isIn(owner, OWNERS) || owner == r.owner) {
            return false;
        }
        keepPast();
        r.owner = owner;
        pages.write(now, rope, NONE, owner, SOLD, NONE);
        return true;
    }

    public int days(int n) {
        if (n < 1 || n > MOST_DAYS || now.day + n > LAST_DAY) {
            return NONE;
        }
        int breaks = 0;
        for (int i = 0; i < n; i++) {
            keepPast();
            breaks += passDay();
        }
        return breaks;
    }

    // Texts. They are read into a draft first, so that a faulty one changes nothing.

    public int feed(int a, int b, int c, int d, int e) {
        if (tokens.length + 20 > TAPE) {
            return NONE;
        }
        tokens.feedNumber(a);
        tokens.feedNumber(b);
        tokens.feedNumber(c);
        tokens.feedNumber(d);
        tokens.feedNumber(e);
        return tokens.length;
    }

    public boolean end(int n) {
        if (n < 0 || n > tokens.length) {
            return false;
        }
        tokens.length = n;
        return true;
    }

    public int text(int k) {
        tokens.fault = 0;
        tokens.faultPlace = NONE;
        int many = NONE;
        if (k >= 0 && k < LAWS) {
            tokens.scan(k == 0 ? Law.TYING : k == 1 ? Law.FORGETTING : Law.HOLDING);
            if (lawDraft.readAll(tokens)) {
                lore.laws[k].copyFrom(lawDraft);
                many = lawDraft.lines;
            }
        } else if (k == DRILL_TEXT) {
            tokens.scan(Drill.WORDS);
            if (drillDraft.readAll(tokens)) {
                lore.steps.copyFrom(drillDraft);
                many = drillDraft.count;
            }
        } else if (k >= SHAPE_TEXT && k < SHAPE_TEXT + SHAPES) {
            many = lore.readLetters(k - SHAPE_TEXT, tokens);
        }
        tokens.length = 0;
        return many;
    }

    public int fault(int what) {
        switch (what) {
            case 0: return tokens.fault;
            case 1: return tokens.faultPlace;
            default: return NONE;
        }
    }

    public int drill(int rope, int hand) {
        if (now.ropeAt(rope) == null || !isIn(hand, HANDS) || now.day + lore.steps.restDays() > LAST_DAY) {
            return NONE;
        }
        keepPast();
        int done = 0;
        for (int i = 0; i < lore.steps.count; i++) {
            if (doStep(rope, hand, i)) {
                done++;
            }
        }
        return done;
    }

    // What is.

    public int of(int rope, int what) {
        Rope r = now.ropeAt(rope);
        if (r == null) {
            return NONE;
        }
        switch (what) {
            case 0: return r.length;
            case 1: return r.owner;
            case 2: return r.born;
            case 3: return r.wetness;
            case 4: return r.tiesInAll();
            case 5: return r.habitsInAll();
            default: return NONE;
        }
    }

    public int at(int rope, int place, int what) {
        Rope r = now.ropeAt(rope);
        if (r == null || !isIn(place, r.length)) {
            return NONE - 1;
        }
        int caller = r.tied[place] == NONE ? r.callAt(place) : NONE;
        switch (what) {
            case 0: return r.tied[place];
            case 1: return caller;
            case 2: return caller == NONE ? NONE : judge.needOf(now, r, place, caller);
            case 3: return judge.strengthOf(now, r, place);
            default: return NONE - 1;
        }
    }

    public int habit(int rope, int place, int knot, int what) {
        Rope r = now.ropeAt(rope);
        if (r == null || !isIn(place, r.length) || !isIn(knot, KNOTS)) {
            return NONE - 1;
        }
        int i = place * KNOTS + knot;
        boolean known = r.habits[i] > 0;
        switch (what) {
            case 0: return r.habits[i];
            case 1: return known ? r.since[i] : NONE;
            case 2: return known ? judge.lossOf(now, r, place, knot) : 0;
            default: return NONE - 1;
        }
    }

    public int book(int i, int what) {
        if (!isIn(i, now.lines) || !isIn(what, Book.COLUMNS)) {
            return NONE - 1;
        }
        return pages.entry(i, what);
    }

    // In thought.

    public int would(int rope, int force, int what) {
        Rope r = now.ropeAt(rope);
        if (r == null || !isIn(force, FORCES) || what < 0 || what > 3) {
            return NONE - 1;
        }
        thought.copyFrom(r);
        pulling.tieAll(now, thought, force);
        boolean some = pulling.ties > 0;
        switch (what) {
            case 0: return pulling.ties;
            case 1: return some ? pulling.places[0] : NONE;
            case 2: return some ? pulling.knots[0] : NONE;
            default: return judge.weakestBelow(now, thought, force);
        }
    }

    public int least(int rope, int what) {
        Rope r = now.ropeAt(rope);
        if (r == null || what < 0 || what > 1) {
            return NONE;
        }
        for (int force = 0; force < FORCES; force++) {
            thought.copyFrom(r);
            pulling.tieAll(now, thought, force);
            boolean happens = what == 0 ? pulling.ties > 0 : judge.weakestBelow(now, thought, force) != NONE;
            if (happens) {
                return force;
            }
        }
        return NONE;
    }

    public int train(int rope, int place, int knot, int force) {
        Rope r = now.ropeAt(rope);
        if (r == null || !r.isUntied(place) || !isIn(knot, KNOTS) || !isIn(force, FORCES)) {
            return NONE;
        }
        thought.copyFrom(r);
        for (int times = 0; times <= MOST_TRAINING; times++) {
            if (pulling.tiesFirst(now, thought, force, place, knot)) {
                return times;
            }
            thought.addHabit(place, knot, now.tight[knot], now.day);
        }
        return NONE;
    }

    public int told(int force, int knot) {
        if (force == NONE) {
            lore.toldCount = 0;
            return 0;
        }
        if (!isIn(force, FORCES) || knot != NONE && !isIn(knot, KNOTS) || lore.toldCount >= MOST_TOLD) {
            return NONE;
        }
        lore.toldForces[lore.toldCount] = force;
        lore.toldKnots[lore.toldCount] = knot;
        lore.toldCount++;
        return lore.toldCount;
    }

    public int fits(int rope, int place, int what) {
        Rope r = now.ropeAt(rope);
        if (r == null || !r.isUntied(place) || what < 0 || what > 3) {
            return NONE;
        }
        thought.copyFrom(r);
        judge.findPasts(now, thought, place);
        switch (what) {
            case 0: return judge.pasts;
            case 1: return judge.pastKnot;
            case 2: return judge.pastHabit;
            default: return judge.tellingForce();
        }
    }

    public int weak(int rope, int what) {
        Rope r = now.ropeAt(rope);
        if (r == null || what < 0 || what > 1) {
            return NONE;
        }
        int place = judge.weakestBelow(now, r, MOST_STRENGTH + 1);
        return what == 1 ? place : judge.strengthOf(now, r, place);
    }

    public int ladder(int length) {
        int best = NONE;
        int bestStrength = NONE;
        for (int number = 0; number < ROPES; number++) {
            Rope r = now.ropes[number];
            if (r.there && r.length >= length) {
                int strength = judge.strengthOf(now, r, judge.weakestBelow(now, r, MOST_STRENGTH + 1));
                if (strength > bestStrength) {
                    best = number;
                    bestStrength = strength;
                }
            }
        }
        return best;
    }

    public int order(int length) {
        if (length == NONE) {
            lore.orderCount = 0;
            return 0;
        }
        if (length < 1 || length > PLACES || lore.orderCount >= MOST_ORDERS) {
            return NONE;
        }
        lore.orders[lore.orderCount] = length;
        lore.orderCount++;
        return lore.orderCount;
    }

    public int yard(int what) {
        int i = what - 10;
        if (what != 0 && (what < 10 || i >= lore.orderCount)) {
            return NONE;
        }
        yardPlan.plan(now, lore);
        if (what == 0 || yardPlan.fewest == NONE) {
            return yardPlan.fewest;
        }
        return yardPlan.chosen[i];
    }

    public int moves(int a, int b) {
        if (!isIn(a, SHAPES) || !isIn(b, SHAPES) || lore.marksDiffer(a, b)) {
            return NONE;
        }
        return search.fewest(lore.codeOf(a), lore.codeOf(b));
    }

    public int shape(int k, int what) {
        if (!isIn(k, SHAPES)) {
            return NONE - 99;
        }
        switch (what) {
            case 0: return lore.letterCounts[k];
            case 1: return lore.balanceOf(k);
            case 2: return lore.twistsOf(k);
            default: return lore.letterOf(k, what);
        }
    }

    public int unlike(int a, int b) {
        if (!isIn(a, SHAPES) || !isIn(b, SHAPES)) {
            return NONE;
        }
        return lore.marksDiffer(a, b) ? 1 : 0;
    }

    public int whose(int rope, int place, int what) {
        if (!isIn(rope, ROPES)) {
            return NONE - 1;
        }
        if (what == 1) {
            return pages.salesOf(now.lines, rope);
        }
        if (what != 0 || !isIn(place, PLACES)) {
            return NONE - 1;
        }
        return pages.latestHand(now.lines, rope, place);
    }

    // What was.

    public boolean undo() {
        if (pastCount <= 0) {
            return false;
        }
        pastCount--;
        now.copyFrom(past[pastCount]);
        return true;
    }

    public boolean image(boolean taken) {
        if (taken) {
            imageWorld.copyFrom(now);
            imageBook.copyFrom(pages);
            imageLore.copyFrom(lore);
            imageTaken = true;
            return true;
        }
        if (!imageTaken) {
            return false;
        }
        now.copyFrom(imageWorld);
        pages.copyFrom(imageBook);
        lore.copyFrom(imageLore);
        pastCount = 0;
        return true;
    }

    public int look(int what) {
        if (what >= 20 && what < 20 + KNOTS) {
            return now.tight[what - 20];
        }
        if (what >= 30 && what < 30 + KNOTS) {
            return now.cross[what - 30];
        }
        switch (what) {
            case 0: return now.ropeSet();
            case 1: return now.day;
            case 2: return now.storm;
            case 3: return now.lines;
            case 4: return now.draws;
            case 5: return lore.laws[0].lines;
            case 6: return lore.laws[1].lines;
            case 7: return lore.laws[2].lines;
            case 8: return lore.steps.count;
            case 9: return pastCount;
            case 10: return lore.toldCount;
            case 11: return lore.orderCount;
            default: return NONE;
        }
    }

    // How acts are done, alike by a call of their own, a drill and a storm.

    private static boolean isIn(int v, int below) {
        return v >= 0 && v < below;
    }

    /** Keeps the world as it is, ahead of what may be undone; the oldest of five goes. */
    private void keepPast() {
        if (pastCount >= KEPT) {
            World oldest = past[0];
            for (int i = 1; i < KEPT; i++) {
                past[i - 1] = past[i];
            }
            past[KEPT - 1] = oldest;
            pastCount = KEPT - 1;
        }
        past[pastCount].copyFrom(now);
        pastCount++;
    }

    private void tieByHand(int rope, int place, int knot, int hand) {
        now.ropes[rope].tieKnot(place, knot, now.tight[knot], now.day);
        pages.write(now, rope, place, knot, BY_HAND, hand);
    }

    /** Answers whether the rope broke; how many tied themselves is left in pulling.ties. */
    private boolean pullNow(int rope, int force) {
        Rope r = now.ropes[rope];
        pulling.tieAll(now, r, force);
        for (int i = 0; i < pulling.ties; i++) {
            pages.write(now, rope, pulling.places[i], pulling.knots[i], BY_ITSELF, NONE);
        }
        int place = judge.weakestBelow(now, r, force);
        if (place == NONE) {
            return false;
        }
        int fresh = now.part(rope, place);
        pages.write(now, rope, place, fresh, BROKEN, NONE);
        return true;
    }

    /** One day for all ropes: answers how many broke. */
    private int passDay() {
        for (int i = 0; i < ROPES; i++) {
            if (now.ropes[i].there) {
                judge.forget(now, now.ropes[i]);
            }
        }
        boolean storms = now.storm > 0 && now.drawBelow(1000) < now.storm;
        int pulled = storms ? now.ropeSet() : 0; // the set of before: ropes that breaks make are not pulled
        int breaks = 0;
        for (int i = 0; i < ROPES; i++) {
            if (((pulled >> i) & 1) == 1 && pullNow(i, now.drawBelow(FORCES))) {
                breaks++;
            }
        }
        now.day++;
        return breaks;
    }

    /** Does step i of the drill if it can be done: answers whether it was. */
    private boolean doStep(int rope, int hand, int i) {
        Rope r = now.ropeAt(rope);
        if (r == null) {
            return false;
        }
        int v = lore.steps.firsts[i];
        switch (lore.steps.kinds[i]) {
            case Drill.TIE:
                if (!r.isUntied(lore.steps.seconds[i])) {
                    return false;
                }
                tieByHand(rope, lore.steps.seconds[i], v, hand);
                return true;
            case Drill.UNTIE:
                if (!r.isTied(v)) {
                    return false;
                }
                r.tied[v] = NONE;
                return true;
            case Drill.PULL:
                pullNow(rope, v);
                return true;
            case Drill.WET:
                r.wetTo(v, now.day);
                return true;
            default:
                for (int day = 0; day < v; day++) {
                    passDay();
                }
                return true;
        }
    }

    /** One rope with its places; what stands behind its length means nothing. */
    private static final class Rope {
        boolean there;
        int length;
        int owner;
        int born;
        int wetness;
        final int[] tied = new int[PLACES];
        final int[] habits = new int[PLACES * KNOTS];
        final int[] since = new int[PLACES * KNOTS];

        void copyFrom(Rope other) {
            there = other.there;
            length = other.length;
            owner = other.owner;
            born = other.born;
            wetness = other.wetness;
            System.arraycopy(other.tied, 0, tied, 0, PLACES);
            System.arraycopy(other.habits, 0, habits, 0, PLACES * KNOTS);
            System.arraycopy(other.since, 0, since, 0, PLACES * KNOTS);
        }

        void begin(int newLength, int newOwner, int day) {
            there = true;
            length = newLength;
            owner = newOwner;
            born = day;
            wetness = 0;
            Arrays.fill(tied, NONE);
            Arrays.fill(habits, 0);
            Arrays.fill(since, 0);
        }

        boolean isUntied(int place) {
            return place >= 0 && place < length && tied[place] == NONE;
        }

        boolean isTied(int place) {
            return place >= 0 && place < length && tied[place] != NONE;
        }

        /** The knot that calls at a place, tied or not: the oldest habit, the greatest, the least knot. */
        int callAt(int place) {
            int best = NONE;
            for (int i = place * KNOTS; i < (place + 1) * KNOTS; i++) {
                if (habits[i] > 0 && (best == NONE || since[i] < since[best]
                        || since[i] == since[best] && habits[i] > habits[best])) {
                    best = i;
                }
            }
            return best == NONE ? NONE : best - place * KNOTS;
        }

        int tiesBeside(int place) {
            return (isTied(place - 1) ? 1 : 0) + (isTied(place + 1) ? 1 : 0);
        }

        int tiesInAll() {
            int many = 0;
            for (int place = 0; place < length; place++) {
                many += tied[place] != NONE ? 1 : 0;
            }
            return many;
        }

        int habitsAt(int place) {
            int sum = 0;
            for (int i = place * KNOTS; i < (place + 1) * KNOTS; i++) {
                sum += habits[i];
            }
            return sum;
        }

        int habitsInAll() {
            int sum = 0;
            for (int place = 0; place < length; place++) {
                sum += habitsAt(place);
            }
            return sum;
        }

        void addHabit(int place, int knot, int more, int day) {
            int i = place * KNOTS + knot;
            if (habits[i] == 0) {
                since[i] = day;
            }
            habits[i] = Math.min(MOST_HABIT, habits[i] + more);
        }

        void tieKnot(int place, int knot, int more, int day) {
            tied[place] = knot;
            addHabit(place, knot, more, day);
        }

        void wetTo(int v, int day) {
            if (wetness == 0 && v > 0) {
                for (int place = 0; place < length; place++) {
                    int knot = callAt(place);
                    if (knot != NONE) {
                        addHabit(place, knot, WETTING, day);
                    }
                }
            }
            wetness = v;
        }

        /** What a cut leaves: half the habits of the place before it, none of the place behind it. */
        void forgetBeside(int place) {
            for (int knot = 0; knot < KNOTS; knot++) {
                habits[place * KNOTS + knot] = 0;
                if (place > 0) {
                    habits[(place - 1) * KNOTS + knot] /= 2;
                }
            }
        }

        /** Becomes what lies from a place on of another rope. */
        void takeTail(Rope from, int place) {
            begin(from.length - place, from.owner, from.born);
            wetness = from.wetness;
            copyPlaces(from, place, 0, length);
        }

        private void copyPlaces(Rope from, int start, int to, int many) {
            System.arraycopy(from.tied, start, tied, to, many);
            System.arraycopy(from.habits, start * KNOTS, habits, to * KNOTS, many * KNOTS);
            System.arraycopy(from.since, start * KNOTS, since, to * KNOTS, many * KNOTS);
        }

        void append(Rope other) {
            int seam = length;
            copyPlaces(other, 0, seam, other.length);
            length = seam + other.length;
            wetness = Math.max(wetness, other.wetness);
            for (int knot = 0; knot < KNOTS; knot++) {
                marry((seam - 1) * KNOTS + knot, seam * KNOTS + knot);
            }
        }

        private void marry(int i, int j) {
            int first = since[i];
            if (habits[i] == 0 || habits[j] > 0 && since[j] < first) {
                first = since[j];
            }
            int most = Math.max(habits[i], habits[j]);
            habits[i] = most;
            habits[j] = most;
            since[i] = first;
            since[j] = first;
        }
    }

    /** All that acts change, and how knots and weather are; how much of the book is written, too. */
    private static final class World {
        int day;
        int storm;
        int draws;
        int lines;
        final int[] tight = new int[KNOTS];
        final int[] cross = new int[KNOTS];
        final Rope[] ropes = new Rope[ROPES];

        World() {
            Arrays.fill(tight, 3);
            Arrays.fill(cross, 2);
            for (int i = 0; i < ROPES; i++) {
                ropes[i] = new Rope();
            }
        }

        void copyFrom(World other) {
            day = other.day;
            storm = other.storm;
            draws = other.draws;
            lines = other.lines;
            System.arraycopy(other.tight, 0, tight, 0, KNOTS);
            System.arraycopy(other.cross, 0, cross, 0, KNOTS);
            for (int i = 0; i < ROPES; i++) {
                if (other.ropes[i].there) {
                    ropes[i].copyFrom(other.ropes[i]);
                } else {
                    ropes[i].there = false;
                }
            }
        }

        /** The rope of a number, or null if it is not there. */
        Rope ropeAt(int number) {
            return isIn(number, ROPES) && ropes[number].there ? ropes[number] : null;
        }

        int freeNumber() {
            for (int i = 0; i < ROPES; i++) {
                if (!ropes[i].there) {
                    return i;
                }
            }
            return NONE;
        }

        int ropeSet() {
            int found = 0;
            for (int i = 0; i < ROPES; i++) {
                found |= ropes[i].there ? 1 << i : 0;
            }
            return found;
        }

        int drawBelow(int m) {
            draws = draws * 1664525 + 1013904223;
            return m > 0 ? (draws >>> 8) % m : 0;
        }

        /** Parts a rope at any place: the number of the new rope, NONE if that is lost. */
        int part(int number, int place) {
            Rope rope = ropes[number];
            int fresh = rope.length - place < SHORTEST ? NONE : freeNumber();
            rope.forgetBeside(place);
            if (fresh != NONE) {
                ropes[fresh].takeTail(rope, place);
            }
            rope.length = place;
            rope.there = place >= SHORTEST;
            return fresh;
        }
    }

    /** The rows of THE BOOK; how many of them count is told by the world, so that an undo takes lines back. */
    private static final class Book {
        static final int LINES = 200;
        static final int COLUMNS = 6;
        final int[] rows = new int[LINES * COLUMNS];

        void copyFrom(Book other) {
            System.arraycopy(other.rows, 0, rows, 0, LINES * COLUMNS);
        }

        void write(World world, int rope, int place, int what, int how, int hand) {
            if (world.lines >= LINES) {
                return;
            }
            int i = world.lines * COLUMNS;
            rows[i] = world.day;
            rows[i + 1] = rope;
            rows[i + 2] = place;
            rows[i + 3] = what;
            rows[i + 4] = how;
            rows[i + 5] = hand;
            world.lines++;
        }

        int entry(int line, int column) {
            return rows[line * COLUMNS + column];
        }

        int latestHand(int lines, int rope, int place) {
            for (int line = lines - 1; line >= 0; line--) {
                if (entry(line, 4) == BY_HAND && entry(line, 1) == rope && entry(line, 2) == place) {
                    return entry(line, 5);
                }
            }
            return NONE;
        }

        int salesOf(int lines, int rope) {
            int many = 0;
            for (int line = 0; line < lines; line++) {
                many += entry(line, 4) == SOLD && entry(line, 1) == rope ? 1 : 0;
            }
            return many;
        }
    }

    /**
     * A law as code for a small stack: each line leaves its E, then its B if it has one, then the sign that
     * takes the E as the answer. So the lines can be run straight through until one answers.
     */
    private static final class Law {
        static final String TYING = "tie when or and not habit age place knot tight wet beside ties";
        static final String FORGETTING = "forget when or and not habit age place knot tight wet";
        static final String HOLDING = "hold when or and not tied tight cross years place length wet habits";
        static final int ASKED = 8;
        static final int DEPTH = 48;

        private static final int MOST_LINES = 16;
        private static final int MOST_OPEN = 8;
        private static final int WHEN_WORD = 1;
        private static final int OR_WORD = 2;
        private static final int AND_WORD = 3;
        private static final int NOT_WORD = 4;
        private static final int FIRST_ASKED = 5;

        // A number stands for itself, -1 to -8 for what the law asks.
        private static final int LAST_ASK = -ASKED;
        private static final int PLUS = -11;
        private static final int MINUS = -12;
        private static final int TIMES = -13;
        private static final int OVER = -14;
        private static final int LESS = -15;
        private static final int SAME = -16;
        private static final int MORE = -17;
        private static final int NOT = -18;
        private static final int AND = -19;
        private static final int OR = -20;
        private static final int ANSWER = -21;
        private static final int ANSWER_WHEN = -22;

        int lines;
        int size;
        final int[] code = new int[TAPE];

        void copyFrom(Law other) {
            lines = other.lines;
            size = other.size;
            System.arraycopy(other.code, 0, code, 0, TAPE);
        }

        /** E of the first line that holds, else what is told otherwise. */
        int answer(int[] asked, int[] stack, int otherwise) {
            int top = 2; // two cells of room below, so that no sign can reach under the row
            for (int i = 0; i < size; i++) {
                if (top < 2 || top >= stack.length) {
                    return otherwise;
                }
                int c = code[i];
                if (c >= 0) {
                    stack[top++] = c;
                } else if (c >= LAST_ASK) {
                    stack[top++] = asked[-1 - c];
                } else if (c == NOT) {
                    stack[top - 1] = 1 - stack[top - 1];
                } else if (c == ANSWER) {
                    return stack[top - 1];
                } else if (c == ANSWER_WHEN) {
                    if (stack[top - 1] != 0) {
                        return stack[top - 2];
                    }
                    top -= 2;
                } else {
                    top--;
                    int a = stack[top - 1];
                    int b = stack[top];
                    switch (c) {
                        case PLUS: a += b; break;
                        case MINUS: a -= b; break;
                        case TIMES: a *= b; break;
                        case OVER: a = b != 0 ? a / b : 0; break;
                        case LESS: a = a < b ? 1 : 0; break;
                        case SAME: a = a == b ? 1 : 0; break;
                        case MORE: a = a > b ? 1 : 0; break;
                        case AND: a &= b; break;
                        default: a |= b; break;
                    }
                    stack[top - 1] = a;
                }
            }
            return otherwise;
        }

        boolean readAll(Tokens t) {
            lines = 0;
            size = 0;
            for (int turn = 0; turn <= TAPE && !t.isEnd(); turn++) {
                if (!readLine(t)) {
                    return false;
                }
            }
            return true;
        }

        private boolean readLine(Tokens t) {
            if (!t.isWord(0)) {
                return t.fail(CANNOT_STAND);
            }
            if (lines >= MOST_LINES) {
                return t.fail(TOO_MANY);
            }
            t.step();
            if (!readSum(t)) {
                return false;
            }
            boolean asksWhen = t.isWord(WHEN_WORD);
            if (asksWhen) {
                t.step();
                if (!readCheck(t, 0, 0)) {
                    return false;
                }
            }
            lines++;
            return put(asksWhen ? ANSWER_WHEN : ANSWER) && t.pass(Tokens.SIGN, ';');
        }

        /** Level 0 reads A {or A}, level 1 C {and C}, level 2 one C; open tells how many ( and not are. */
        private boolean readCheck(Tokens t, int level, int open) {
            if (level < 2) {
                boolean good = readCheck(t, level + 1, open);
                for (int turn = 0; turn < TAPE && good && t.isWord(level == 0 ? OR_WORD : AND_WORD); turn++) {
                    t.step();
                    good = readCheck(t, level + 1, open) && put(level == 0 ? OR : AND);
                }
                return good;
            }
            boolean isNot = t.isWord(NOT_WORD);
            if (isNot || t.isSign('(')) {
                if (open >= MOST_OPEN) {
                    return t.fail(TOO_MANY);
                }
                t.step();
                if (isNot) {
                    return readCheck(t, 2, open + 1) && put(NOT);
                }
                return readCheck(t, 0, open + 1) && t.pass(Tokens.SIGN, ')');
            }
            if (!readSum(t)) {
                return false;
            }
            int sign = t.isSign('<') ? LESS : t.isSign('=') ? SAME : t.isSign('>') ? MORE : 0;
            if (sign == 0) {
                return t.fail(CANNOT_STAND);
            }
            t.step();
            return readSum(t) && put(sign);
        }

        private boolean readSum(Tokens t) {
            boolean good = readProduct(t);
            for (int turn = 0; turn < TAPE && good && (t.isSign('+') || t.isSign('-')); turn++) {
                int sign = t.isSign('+') ? PLUS : MINUS;
                t.step();
                good = readProduct(t) && put(sign);
            }
            return good;
        }

        private boolean readProduct(Tokens t) {
            boolean good = readUnit(t);
            for (int turn = 0; turn < TAPE && good && (t.isSign('*') || t.isSign('/')); turn++) {
                boolean over = t.isSign('/');
                t.step();
                if (over && t.isNumber() && t.value() == 0) {
                    return t.fail(WRONG_NUMBER);
                }
                if (over && !t.isNumber()) {
                    return t.fail(CANNOT_STAND);
                }
                good = readUnit(t) && put(over ? OVER : TIMES);
            }
            return good;
        }

        private boolean readUnit(Tokens t) {
            int unit = t.value();
            if (t.isAsked(FIRST_ASKED)) {
                unit = FIRST_ASKED - 1 - unit;
            } else if (!t.isNumber()) {
                return t.fail(CANNOT_STAND);
            }
            t.step();
            return put(unit);
        }

        private boolean put(int c) {
            if (size < TAPE) {
                code[size] = c;
                size++;
            }
            return true;
        }
    }

    /** The steps of a drill, one by one as they are told: what stands in an again stands here so often. */
    private static final class Drill {
        static final String WORDS = "tie at untie pull wet rest again";
        static final int TIE = 0;
        static final int UNTIE = 2;
        static final int PULL = 3;
        static final int WET = 4;
        static final int REST = 5;

        private static final int AT_WORD = 1;
        private static final int AGAIN = 6;
        private static final int MOST_STEPS = 150;
        private static final int MOST_OPEN = 4;

        int count;
        final int[] kinds = new int[MOST_STEPS];
        final int[] firsts = new int[MOST_STEPS];
        final int[] seconds = new int[MOST_STEPS];
        private int open;
        private final int[] times = new int[MOST_OPEN];
        private final int[] starts = new int[MOST_OPEN];

        void copyFrom(Drill other) {
            count = other.count;
            System.arraycopy(other.kinds, 0, kinds, 0, MOST_STEPS);
            System.arraycopy(other.firsts, 0, firsts, 0, MOST_STEPS);
            System.arraycopy(other.seconds, 0, seconds, 0, MOST_STEPS);
        }

        int restDays() {
            int sum = 0;
            for (int i = 0; i < count; i++) {
                sum += kinds[i] == REST ? firsts[i] : 0;
            }
            return sum;
        }

        boolean readAll(Tokens t) {
            count = 0;
            open = 0;
            for (int turn = 0; turn <= TAPE && !t.isEnd(); turn++) {
                boolean closes = open > 0 && t.isSign(')');
                if (closes) {
                    t.step();
                    closeAgain();
                } else if (!(t.isWord(AGAIN) ? readAgain(t) : readStep(t))) {
                    return false;
                }
            }
            if (open > 0) {
                return t.fail(CANNOT_STAND);
            }
            return count <= MOST_STEPS || t.fail(TOO_LONG);
        }

        private boolean readAgain(Tokens t) {
            if (open >= MOST_OPEN) {
                return t.fail(TOO_MANY);
            }
            t.step();
            int many = t.value();
            if (!t.passNumber(1, 9) || !t.pass(Tokens.SIGN, '(')) {
                return false;
            }
            times[open] = many;
            starts[open] = count;
            open++;
            return true;
        }

        private void closeAgain() {
            open--;
            int body = count - starts[open];
            int copies = body * (times[open] - 1);
            for (int i = 0; i < copies && count <= MOST_STEPS; i++) {
                int from = count - body;
                addStep(kinds[from], firsts[from], seconds[from]);
            }
        }

        /** More steps than may be are only counted: such a drill has a fault at its end. */
        private void addStep(int kind, int first, int second) {
            if (count < MOST_STEPS) {
                kinds[count] = kind;
                firsts[count] = first;
                seconds[count] = second;
            }
            count++;
        }

        private boolean readStep(Tokens t) {
            int kind = t.value();
            if (!t.isAsked(TIE) || kind == AT_WORD) {
                return t.fail(CANNOT_STAND);
            }
            t.step();
            int first = t.value();
            if (!t.passNumber(kind == REST ? 1 : 0, mostOf(kind))) {
                return false;
            }
            int second = 0;
            if (kind == TIE) {
                if (!t.pass(Tokens.WORD, AT_WORD)) {
                    return false;
                }
                second = t.value();
                if (!t.passNumber(0, PLACES - 1)) {
                    return false;
                }
            }
            addStep(kind, first, second);
            return t.pass(Tokens.SIGN, ';');
        }

        private static int mostOf(int kind) {
            switch (kind) {
                case TIE: return KNOTS - 1;
                case UNTIE: return PLACES - 1;
                case PULL: return FORCES - 1;
                case WET: return WETTEST;
                default: return 30;
            }
        }
    }

    /** What is told beside the world: laws, a drill, shapes, pulls that were told, orders. */
    private static final class Lore {
        private static final int OVER_LETTER = 0;
        private static final int UNDER_LETTER = 1;
        private static final int TWIST_LETTER = 2;

        final Law[] laws = new Law[LAWS];
        final Drill steps = new Drill();
        final int[] letters = new int[SHAPES * LETTERS];
        final int[] letterCounts = new int[SHAPES];
        final int[] toldForces = new int[MOST_TOLD];
        final int[] toldKnots = new int[MOST_TOLD];
        int toldCount;
        final int[] orders = new int[MOST_ORDERS];
        int orderCount;

        Lore() {
            for (int i = 0; i < LAWS; i++) {
                laws[i] = new Law();
            }
        }

        void copyFrom(Lore other) {
            for (int i = 0; i < LAWS; i++) {
                laws[i].copyFrom(other.laws[i]);
            }
            steps.copyFrom(other.steps);
            System.arraycopy(other.letters, 0, letters, 0, SHAPES * LETTERS);
            System.arraycopy(other.letterCounts, 0, letterCounts, 0, SHAPES);
            System.arraycopy(other.toldForces, 0, toldForces, 0, MOST_TOLD);
            System.arraycopy(other.toldKnots, 0, toldKnots, 0, MOST_TOLD);
            toldCount = other.toldCount;
            System.arraycopy(other.orders, 0, orders, 0, MOST_ORDERS);
            orderCount = other.orderCount;
        }

        /** Reads a shape from the tape: how many letters, NONE with a fault (the shape stays then). */
        int readLetters(int k, Tokens t) {
            int many = 0;
            for (int i = 0; i < t.length; i++) {
                if (!Tokens.isBlank(t.tape[i])) {
                    boolean good = letterFor(t.tape[i]) != NONE;
                    if (!good || many >= LETTERS) {
                        t.failAt(good ? TOO_MANY : CANNOT_STAND, i);
                        return NONE;
                    }
                    many++;
                }
            }
            letterCounts[k] = 0;
            for (int i = 0; i < t.length; i++) {
                if (!Tokens.isBlank(t.tape[i])) {
                    letters[k * LETTERS + letterCounts[k]] = letterFor(t.tape[i]);
                    letterCounts[k]++;
                }
            }
            return many;
        }

        private static int letterFor(int c) {
            switch (c) {
                case 'o': return OVER_LETTER;
                case 'u': return UNDER_LETTER;
                case 't': return TWIST_LETTER;
                default: return NONE;
            }
        }

        private int countOf(int k, int letter) {
            int many = 0;
            for (int i = 0; i < letterCounts[k]; i++) {
                many += letters[k * LETTERS + i] == letter ? 1 : 0;
            }
            return many;
        }

        int balanceOf(int k) {
            return countOf(k, OVER_LETTER) - countOf(k, UNDER_LETTER);
        }

        int twistsOf(int k) {
            return countOf(k, TWIST_LETTER) % 2;
        }

        boolean marksDiffer(int a, int b) {
            return balanceOf(a) != balanceOf(b) || twistsOf(a) != twistsOf(b);
        }

        int letterOf(int k, int what) {
            if (what < 10 || what - 10 >= letterCounts[k]) {
                return NONE - 99;
            }
            return letters[k * LETTERS + what - 10];
        }

        int codeOf(int k) {
            int made = 0;
            for (int i = 0; i < letterCounts[k]; i++) {
                made = MoveSearch.behind(made, letters[k * LETTERS + i]);
            }
            return made;
        }
    }

    /** What the laws say of places, and which pasts of a place fit the pulls that were told. */
    private static final class Judge {
        final Lore lore;
        int pasts;
        int pastKnot;
        int pastHabit;
        private final int[] asked = new int[Law.ASKED];
        private final int[] stack = new int[Law.DEPTH];
        private final int[] pastNeeds = new int[MOST_NEED + 1];

        Judge(Lore known) {
            lore = known;
        }

        private static int held(int v, int most) {
            return v < 0 ? 0 : v > most ? most : v;
        }

        private void askHabit(World world, Rope rope, int place, int knot) {
            int i = place * KNOTS + knot;
            asked[0] = rope.habits[i];
            asked[1] = world.day - rope.since[i];
            asked[2] = place;
            asked[3] = knot;
            asked[4] = world.tight[knot];
            asked[5] = rope.wetness;
        }

        int needOf(World world, Rope rope, int place, int knot) {
            askHabit(world, rope, place, knot);
            asked[6] = rope.tiesBeside(place);
            asked[7] = rope.tiesInAll();
            return held(lore.laws[0].answer(asked, stack, 100 - asked[0]), MOST_NEED);
        }

        int lossOf(World world, Rope rope, int place, int knot) {
            askHabit(world, rope, place, knot);
            return held(lore.laws[1].answer(asked, stack, 1), MOST_LOSS);
        }

        int strengthOf(World world, Rope rope, int place) {
            if (!isIn(place, rope.length)) {
                return NONE;
            }
            int knot = rope.tied[place];
            asked[0] = knot == NONE ? 0 : 1;
            asked[1] = knot == NONE ? 0 : world.tight[knot];
            asked[2] = knot == NONE ? 0 : world.cross[knot];
            asked[3] = (world.day - rope.born) / 365;
            asked[4] = place;
            asked[5] = rope.length;
            asked[6] = rope.wetness;
            asked[7] = rope.habitsAt(place);
            return held(lore.laws[2].answer(asked, stack, 90), MOST_STRENGTH);
        }

        /** The first place with the least strength if that is below what is told, else NONE. */
        int weakestBelow(World world, Rope rope, int below) {
            int weakest = NONE;
            int least = below;
            for (int place = 0; place < rope.length; place++) {
                int strength = strengthOf(world, rope, place);
                if (strength < least) {
                    weakest = place;
                    least = strength;
                }
            }
            return weakest;
        }

        /** What a day takes from a rope: habits of its untied places, and some of its wetness. */
        void forget(World world, Rope rope) {
            for (int place = 0; place < rope.length; place++) {
                for (int knot = 0; knot < KNOTS && rope.tied[place] == NONE; knot++) {
                    int i = place * KNOTS + knot;
                    if (rope.habits[i] > 0) {
                        rope.habits[i] = Math.max(0, rope.habits[i] - lossOf(world, rope, place, knot));
                    }
                }
            }
            rope.wetness = Math.max(0, rope.wetness - 1);
        }

        /** Tries every one-knot past of a place on a rope that is only thought of. */
        void findPasts(World world, Rope rope, int place) {
            pasts = 0;
            pastKnot = NONE;
            pastHabit = NONE;
            Arrays.fill(pastNeeds, 0);
            for (int knot = 0; knot < KNOTS; knot++) {
                int i = place * KNOTS + knot;
                rope.since[i] = world.day;
                for (int v = 1; v <= MOST_HABIT; v++) {
                    rope.habits[i] = v;
                    int need = needOf(world, rope, place, knot);
                    if (agreesWithTold(knot, need)) {
                        if (pasts == 0) {
                            pastKnot = knot;
                            pastHabit = v;
                        }
                        pasts++;
                        pastNeeds[need]++;
                    }
                }
            }
        }

        private boolean agreesWithTold(int knot, int need) {
            for (int i = 0; i < lore.toldCount; i++) {
                int would = need <= lore.toldForces[i] ? knot : NONE;
                if (would != lore.toldKnots[i]) {
                    return false;
                }
            }
            return true;
        }

        /** The force that parts the pasts that were found most evenly. */
        int tellingForce() {
            if (pasts < 2) {
                return NONE;
            }
            int best = NONE;
            int bestPart = pasts + 1;
            int tying = 0;
            for (int force = 0; force < FORCES; force++) {
                tying += pastNeeds[force];
                int greater = Math.max(tying, pasts - tying);
                if (greater < bestPart) {
                    best = force;
                    bestPart = greater;
                }
            }
            return best;
        }
    }

    /** A pull: which places are asked, the oldest call first, and which of them tie themselves. */
    private static final class Pull {
        final Judge judge;
        final int[] places = new int[PLACES];
        final int[] knots = new int[PLACES];
        int ties;
        private int waiting;

        Pull(Judge asked) {
            judge = asked;
        }

        private void lineUp(Rope rope) {
            waiting = 0;
            for (int place = 0; place < rope.length; place++) {
                int knot = rope.tied[place] == NONE ? rope.callAt(place) : NONE;
                if (knot != NONE) {
                    int since = rope.since[place * KNOTS + knot];
                    int i = waiting;
                    for (; i > 0 && rope.since[places[i - 1] * KNOTS + knots[i - 1]] > since; i--) {
                        places[i] = places[i - 1];
                        knots[i] = knots[i - 1];
                    }
                    places[i] = place;
                    knots[i] = knot;
                    waiting++;
                }
            }
        }

        /** Ties what the force ties; the first ties many of places and knots are these, in their order. */
        void tieAll(World world, Rope rope, int force) {
            lineUp(rope);
            ties = 0;
            for (int i = 0; i < waiting; i++) {
                int place = places[i];
                int knot = knots[i];
                if (judge.needOf(world, rope, place, knot) <= force) {
                    rope.tieKnot(place, knot, 1, world.day);
                    places[ties] = place;
                    knots[ties] = knot;
                    ties++;
                }
            }
        }

        /** Whether the first that would tie itself is that knot at that place; nothing is tied. */
        boolean tiesFirst(World world, Rope rope, int force, int place, int knot) {
            lineUp(rope);
            for (int i = 0; i < waiting; i++) {
                if (judge.needOf(world, rope, places[i], knots[i]) <= force) {
                    return places[i] == place && knots[i] == knot;
                }
            }
            return false;
        }
    }

    /** The tape, its tokens one after another with the one that is looked at, and the fault that was found. */
    private static final class Tokens {
        static final int SIGN = 1;
        static final int WORD = 2;
        private static final int END = 0;
        private static final int NUMBER = 3;
        private static final int BAD = 4;
        private static final String SIGNS = ";+-*/()<=>";

        final int[] tape = new int[TAPE];
        int length;
        int fault;
        int faultPlace = NONE;
        private final int[] kinds = new int[TAPE + 1];
        private final int[] values = new int[TAPE + 1];
        private final int[] starts = new int[TAPE + 1];
        private int count;
        private int next;

        void feedNumber(int v) {
            for (int shift = 24; shift >= 0; shift -= 8) {
                if (length < TAPE) {
                    tape[length] = (v >>> shift) & 255;
                    length++;
                }
            }
        }

        static boolean isBlank(int c) {
            return c == 32 || c == 10;
        }

        private static boolean isLetter(int c) {
            return c >= 'a' && c <= 'z' || c >= 'A' && c <= 'Z';
        }

        private static boolean isDigit(int c) {
            return c >= '0' && c <= '9';
        }

        /** Makes tokens of the tape; words are those told, parted by blanks. */
        void scan(String words) {
            count = 0;
            next = 0;
            int i = 0;
            for (int turn = 0; turn < TAPE && i < length; turn++) {
                int start = i;
                int c = tape[i];
                i++;
                if (isLetter(c)) {
                    while (i < length && isLetter(tape[i])) {
                        i++;
                    }
                    int word = wordFor(words, start, i);
                    add(word == NONE ? BAD : WORD, word, start);
                } else if (isDigit(c)) {
                    while (i < length && isDigit(tape[i])) {
                        i++;
                    }
                    add(i - start > 4 ? BAD : NUMBER, numberFor(start, Math.min(i, start + 4)), start);
                } else if (!isBlank(c)) {
                    add(SIGNS.indexOf((char) c) >= 0 ? SIGN : BAD, c, start);
                }
            }
            add(END, 0, length);
        }

        private void add(int kind, int value, int start) {
            if (count <= TAPE) {
                kinds[count] = kind;
                values[count] = value;
                starts[count] = start;
                count++;
            }
        }

        private int numberFor(int from, int to) {
            int v = 0;
            for (int i = from; i < to; i++) {
                v = v * 10 + tape[i] - '0';
            }
            return v;
        }

        /** Which of the words stands on the tape, NONE if none does. */
        private int wordFor(String words, int from, int to) {
            int number = 0;
            int start = 0;
            for (int i = 0; i <= words.length(); i++) {
                if (i == words.length() || words.charAt(i) == ' ') {
                    if (i - start == to - from && standsAt(words, start, from, to - from)) {
                        return number;
                    }
                    number++;
                    start = i + 1;
                }
            }
            return NONE;
        }

        private boolean standsAt(String words, int start, int from, int many) {
            for (int i = 0; i < many; i++) {
                if (words.charAt(start + i) != tape[from + i]) {
                    return false;
                }
            }
            return true;
        }

        boolean isEnd() {
            return kinds[next] == END;
        }

        boolean isNumber() {
            return kinds[next] == NUMBER;
        }

        boolean isWord(int word) {
            return kinds[next] == WORD && values[next] == word;
        }

        boolean isAsked(int firstWord) {
            return kinds[next] == WORD && values[next] >= firstWord;
        }

        boolean isSign(int sign) {
            return kinds[next] == SIGN && values[next] == sign;
        }

        int value() {
            return values[next];
        }

        /** The end is never left, so there is always a token to look at. */
        void step() {
            if (next < TAPE && kinds[next] != END) {
                next++;
            }
        }

        boolean pass(int kind, int value) {
            if (kinds[next] != kind || values[next] != value) {
                return fail(CANNOT_STAND);
            }
            step();
            return true;
        }

        boolean passNumber(int least, int most) {
            if (kinds[next] != NUMBER) {
                return fail(CANNOT_STAND);
            }
            if (values[next] < least || values[next] > most) {
                return fail(WRONG_NUMBER);
            }
            step();
            return true;
        }

        /** A fault at the token that is looked at; false, so that a reader can answer with it. */
        boolean fail(int kind) {
            fault = kind;
            faultPlace = starts[next];
            return false;
        }

        void failAt(int kind, int place) {
            fault = kind;
            faultPlace = place;
        }
    }

    /** Orders laid on ropes. Sets of orders are bits, so that no way has to be tried order by order. */
    private static final class YardPlan {
        private static final int TOO_FEW = 1000;
        int fewest;
        final int[] chosen = new int[MOST_ORDERS];
        private final int[] lengths = new int[ROPES];
        private final int[] loads = new int[ROPES];
        private final int[] sums = new int[1 << MOST_ORDERS];
        private final int[] best = new int[1 << MOST_ORDERS];

        void plan(World world, Lore lore) {
            for (int i = 0; i < ROPES; i++) {
                lengths[i] = world.ropes[i].there ? world.ropes[i].length : 0;
                loads[i] = 0;
            }
            int least = fewestFrom(lore, 0);
            if (least >= TOO_FEW) {
                fewest = NONE;
                return;
            }
            fewest = least;
            for (int i = 0; i < lore.orderCount; i++) {
                chosen[i] = chooseRope(lore, i);
            }
        }

        /** The first rope with which the orders behind still need no more ropes in all. */
        private int chooseRope(Lore lore, int i) {
            for (int rope = 0; rope < ROPES; rope++) {
                if (loads[rope] + lore.orders[i] <= lengths[rope]) {
                    loads[rope] += lore.orders[i];
                    if (fewestFrom(lore, i + 1) == fewest) {
                        return rope;
                    }
                    loads[rope] -= lore.orders[i];
                }
            }
            return NONE;
        }

        /** How few ropes do if orders before the first told lie as the loads say. */
        private int fewestFrom(Lore lore, int first) {
            int sets = 1 << Math.max(0, lore.orderCount - first);
            for (int set = 0; set < sets; set++) {
                sums[set] = 0;
                for (int i = first; i < lore.orderCount; i++) {
                    sums[set] += ((set >> (i - first)) & 1) * lore.orders[i];
                }
                best[set] = set == 0 ? 0 : TOO_FEW;
            }
            for (int rope = 0; rope < ROPES; rope++) {
                // From the greatest set down: the smaller ones still tell of the ropes before this one.
                for (int set = sets - 1; set >= 0; set--) {
                    best[set] = bestWith(rope, set);
                }
            }
            return best[sets - 1];
        }

        private int bestWith(int rope, int set) {
            int least = best[set] + (loads[rope] > 0 ? 1 : 0);
            for (int part = set; part > 0; part = (part - 1) & set) {
                if (loads[rope] + sums[part] <= lengths[rope]) {
                    least = Math.min(least, best[set ^ part] + 1);
                }
            }
            return least;
        }
    }

    /** Moves from shape to shape, nearest first. A shape is a number: its letters as digits 1 to 3 by threes. */
    private static final class MoveSearch {
        private static final int ALL = 3280;
        private static final int FARTHEST = 12;
        private static final int TWIST = 2;
        private final int[] far = new int[ALL];
        private final int[] queue = new int[ALL];
        private final int[] letters = new int[LETTERS];
        private int count;
        private int waiting;

        static int behind(int code, int letter) {
            return code * 3 + letter + 1;
        }

        int fewest(int from, int to) {
            if (!isIn(from, ALL) || !isIn(to, ALL)) {
                return NONE;
            }
            Arrays.fill(far, NONE);
            far[from] = 0;
            queue[0] = from;
            waiting = 1;
            for (int i = 0; i < ALL && i < waiting && far[to] == NONE; i++) {
                int moves = far[queue[i]];
                if (moves >= FARTHEST) {
                    return NONE;
                }
                spell(queue[i]);
                reachAll(moves + 1);
            }
            return far[to];
        }

        private void spell(int code) {
            count = 0;
            for (int rest = code; rest > 0 && count < LETTERS; rest = (rest - 1) / 3) {
                count++;
            }
            int rest = code;
            for (int i = count - 1; i >= 0; i--) {
                letters[i] = (rest - 1) % 3;
                rest = (rest - 1) / 3;
            }
        }

        private void reachAll(int moves) {
            for (int i = 0; i + 1 < count; i++) {
                int a = letters[i];
                int b = letters[i + 1];
                if (a + b == 1 || a == TWIST && b == TWIST) {
                    reach(moves, i, NONE, NONE, i + 2);
                } else if (a == TWIST || b == TWIST) {
                    reach(moves, i, b, a, i + 2);
                }
            }
            for (int i = 0; i <= count && count + 2 <= LETTERS; i++) {
                reach(moves, i, 0, 1, i);
                reach(moves, i, 1, 0, i);
                reach(moves, i, TWIST, TWIST, i);
            }
        }

        /** The shape of the first letters until one, then a and b (or none), then the letters from another on. */
        private void reach(int moves, int until, int a, int b, int from) {
            int code = 0;
            for (int i = 0; i < until; i++) {
                code = behind(code, letters[i]);
            }
            if (a != NONE) {
                code = behind(behind(code, a), b);
            }
            for (int i = from; i < count; i++) {
                code = behind(code, letters[i]);
            }
            if (isIn(code, ALL) && far[code] == NONE) {
                far[code] = moves;
                queue[waiting] = code;
                waiting++;
            }
        }
    }
}
